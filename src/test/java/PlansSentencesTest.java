import java.util.function.Supplier;

/** The sentences of promises 19 to 25 that name a boundary: plans, books, judging, the image. */
public final class PlansSentencesTest {
    private static final int MAX = Integer.MAX_VALUE, MIN = Integer.MIN_VALUE;

    public static void main(String[] args) {
        Sentences s = new Sentences("PlansSentencesTest");
        all(s);
        s.end();
    }

    static void all(Sentences s) {
        plan(s);
        planRefused(s);
        ends(s);
        book(s);
        bookRefused(s);
        looked(s);
        judge(s);
        image(s);
        undo(s);
    }

    private static void plan(Sentences s) {
        s.in("Promise 19");
        s.holds("A row comes to the PLAN: how many there are", () -> {
            TurnBack x = Houses.of(0, 0, 0, 0, 0, 0, 0);
            s.is("what 0", x.plan(0, 0), 1);
            s.is("what 1, the first", x.plan(1, 0), 2);
            s.is("what 2", x.plan(2, 3), 3);
            s.is("what 3, the last", x.plan(3, 5), 4);
            s.is("the same again", x.plan(3, 5), 5);
            for (int row = 6; row <= 10; row++) {
                s.is("row " + row, x.plan(1, 1), row);
            }
            s.is("count", x.count(3), 10);
        });
        s.holds("(what -1: it is empty then, 0, whatever the rest is)", () -> {
            for (int traveller : new int[] {0, -1, 5, 6, MIN, MAX}) {
                TurnBack x = Busy.house();
                s.is("with " + traveller, x.plan(-1, traveller), 0);
                s.is("count", x.count(3), 0);
                s.is("ends as now", x.ends(0), x.told(2));
                s.is("the next", x.plan(0, 0), 1);
            }
            s.is("of none", new TurnBack().plan(-1, 0), 0);
            TurnBack full = Houses.of(0, 0);
            for (int i = 0; i < 10; i++) {
                full.plan(0, 0);
            }
            s.is("of ten", full.plan(-1, 0), 0);
        });
    }

    private static void planRefused(Sentences s) {
        Supplier<TurnBack> full = () -> {
            TurnBack x = Busy.house();
            for (int i = x.count(3); i < 10; i++) {
                x.plan(2, 0);
            }
            return x;
        };
        s.holds("NONE: what (0 .. 3)", () -> {
            for (int what : new int[] {-2, 4, MIN, MAX}) {
                s.refuses(-1, "what " + what, x -> x.plan(what, 0));
            }
        });
        s.holds("traveller (but by 0)", () -> {
            for (int traveller : new int[] {-1, 5, 6, MIN, MAX}) {
                for (int what = 1; what <= 3; what++) {
                    int goes = what;
                    s.refuses(-1, "what " + what + ", traveller " + traveller, x -> x.plan(goes, traveller));
                }
                TurnBack x = Busy.house();
                s.is("what 0, traveller " + traveller, x.plan(0, traveller), 5);
                x.plan(-1, 0);
                x.plan(0, traveller);
                s.is("it is a day", x.ends(0), x.on(1, 0));
            }
            TurnBack nobody = new TurnBack();
            s.is("a day of nobody", nobody.plan(0, 0), 1);
            s.is("nobody home", nobody.plan(1, 0), -1);
            s.is("where it ends", nobody.ends(0), 500);
        });
        s.holds("FULL: 10.", () -> {
            s.refuses(full, -4, "an eleventh", x -> x.plan(0, 0));
            s.refuses(full, -4, "an eleventh of one", x -> x.plan(1, 0));
        });
        s.holds("NONE: what (0 .. 3), traveller (but by 0); FULL: 10.", () -> {
            s.refuses(full, -1, "what, full", x -> x.plan(4, 0));
            s.refuses(full, -1, "what -2, full", x -> x.plan(-2, 0));
            s.refuses(full, -1, "traveller, full", x -> x.plan(3, 5));
            s.refuses(full, -4, "by 0, full", x -> x.plan(0, 5));
        });
    }

    private static void ends(Sentences s) {
        s.in("Promise 20");
        s.holds("what 0 PURSE, 1 which are in the city.", () -> {
            TurnBack x = Houses.of(9, 0, 0, 0, 0, 0, 0);
            x.set(2, 1, 4);
            s.is("no plan: purse", x.ends(0), 500);
            s.is("no plan: city", x.ends(1), 0);
            x.plan(0, 0);
            s.is("a day: purse", x.ends(0), 490);
            s.is("a day: city", x.ends(1), 59);
            s.is("nothing has changed", x.told(0), 0);
            s.is("nobody is there", x.told(3), 0);
            s.is("the plan stands", x.count(3), 1);
        });
        s.holds("NONE.", () -> {
            for (int what : new int[] {-1, 2, MIN, MAX}) {
                s.refuses(-1, "what " + what, x -> x.ends(what));
            }
        });
    }

    private static void book(Sentences s) {
        s.in("Promise 21");
        s.holds("A row comes to the BOOK: how many there are", () -> {
            TurnBack x = Houses.of(0, 0, 0, 0, 0, 0, 0);
            s.is("the least", x.book(0, 0), 1);
            s.is("the greatest", x.book(5, 10), 2);
            s.is("the same again", x.book(5, 10), 3);
            for (int row = 4; row <= 8; row++) {
                s.is("row " + row, x.book(0, 0), row);
            }
            s.is("count", x.count(4), 8);
        });
        s.holds("(traveller -1: it is empty then, 0, whatever the rest is)", () -> {
            for (int place : new int[] {0, -1, 10, 11, MIN, MAX}) {
                TurnBack x = Busy.house();
                x.book(0, 0);
                s.is("with " + place, x.book(-1, place), 0);
                s.is("count", x.count(4), 0);
                s.is("nothing is otherwise", x.looked(), -5);
                s.is("the next", x.book(0, 0), 1);
            }
            s.is("of none", new TurnBack().book(-1, 0), 0);
            TurnBack full = Houses.of(0, 0);
            for (int i = 0; i < 8; i++) {
                full.book(0, 0);
            }
            s.is("of eight", full.book(-1, 0), 0);
        });
    }

    private static void bookRefused(Sentences s) {
        Supplier<TurnBack> full = () -> {
            TurnBack x = Busy.house();
            for (int i = x.count(4); i < 8; i++) {
                x.book(0, i);
            }
            return x;
        };
        s.holds("NONE: traveller, place", () -> {
            for (int traveller : new int[] {-2, 5, 6, MIN, MAX}) {
                s.refuses(-1, "traveller " + traveller, x -> x.book(traveller, 0));
            }
            for (int place : new int[] {-1, 11, MIN, MAX}) {
                s.refuses(-1, "place " + place, x -> x.book(0, place));
            }
            s.is("nobody", new TurnBack().book(0, 0), -1);
        });
        s.holds("FULL: 8.", () -> s.refuses(full, -4, "a ninth", x -> x.book(0, 0)));
        s.holds("NONE: traveller, place; FULL: 8.", () -> {
            s.refuses(full, -1, "traveller, full", x -> x.book(5, 0));
            s.refuses(full, -1, "traveller -2, full", x -> x.book(-2, 0));
            s.refuses(full, -1, "place, full", x -> x.book(0, 11));
        });
    }

    private static void looked(Sentences s) {
        s.in("Promise 22");
        s.holds("LOOKED at; -5.", () -> {
            s.is("nobody, no book", new TurnBack().looked(), -5);
            TurnBack x = Houses.of(4, 0, 0);
            s.is("no book", x.looked(), -5);
            for (int row = 0; row < 8; row++) {
                s.is("all as told", x.looked(), -5);
                x.book(row % 2, 4);
            }
            s.is("eight rows, all as told", x.looked(), -5);
            x.set(1, 1, 5);
            s.is("the second", x.looked(), 1);
            x.pass(1);
            s.is("the first", x.looked(), 0);
        });
    }

    private static void judge(Sentences s) {
        s.in("Promise 23");
        s.holds("JUDGED from place i of a TAPE on.", () -> {
            TurnBack x = Houses.of(3, 0);
            x.tape(0, 4, 60);
            s.is("the first place", x.judge(0, 0), -5);
            s.is("the last place", x.judge(0, 59), -5);
            s.is("place 60", x.judge(0, 60), 100);
            s.is("place -1", x.judge(0, -1), 100);
            x.tape(5, 4, 0);
            s.is("the last tape, a row of no items", x.judge(5, 0), 100);
            s.is("a tape that holds nothing", x.judge(1, 0), 100);
            s.is("one otherwise", otherwise().judge(0, 0), 0);
        });
        s.holds("NONE: tape", () -> {
            for (int tape : new int[] {-1, 6, MIN, MAX}) {
                s.refuses(-1, "tape " + tape, x -> x.judge(tape, 0));
                s.refuses(TurnBack::new, -1, "tape " + tape + ", no travellers", x -> x.judge(tape, -1));
            }
        });
        s.holds("CAST: it is no row of booleans.", () -> {
            for (int tape = 0; tape <= 3; tape++) {
                int judged = tape;
                s.refuses(-12, "tape " + tape, x -> x.judge(judged, 0));
                s.refuses(-12, "tape " + tape + ", place -1", x -> x.judge(judged, -1));
                s.refuses(-12, "tape " + tape + ", place 99", x -> x.judge(judged, 99));
            }
            for (int sort = 0; sort <= 3; sort++) {
                TurnBack x = Houses.of(0, 0);
                x.tape(0, sort, 0);
                s.is("no items of sort " + sort, x.judge(0, 0), -12);
                TurnBack nobody = new TurnBack();
                nobody.tape(0, sort, 1);
                s.is("sort " + sort + ", no travellers", nobody.judge(0, 0), -12);
            }
        });
    }

    private static TurnBack otherwise() {
        TurnBack x = Houses.of(3, 0);
        x.back(0, true);
        x.tape(0, 4, 1);
        return x;
    }

    private static void image(Sentences s) {
        s.in("Promise 24");
        s.holds("THE IMAGE is taken: how many TRAVELLERS there are.", () -> {
            TurnBack x = new TurnBack();
            for (int count = 0; count <= 6; count++) {
                s.is("image of " + count, x.image(), count);
                if (count < 6) {
                    x.traveller(0, 0, 0, 0);
                }
            }
            s.is("the newest is kept", x.undo(), 6);
            TurnBack y = Houses.of(4, 0);
            y.image();
            y.pass(1);
            y.image();
            y.pass(1);
            y.undo();
            s.is("the newest image", y.told(0), 1);
        });
    }

    private static void undo(Sentences s) {
        s.in("Promise 25");
        s.holds("All is as THE IMAGE: how many TRAVELLERS.", () -> {
            TurnBack x = new TurnBack();
            x.image();
            for (int t = 0; t < 6; t++) {
                x.traveller(0, 0, 0, 0);
            }
            s.is("nobody", x.undo(), 0);
            s.is("nobody is there", x.of(0, 0), -10001);
            s.is("count", x.count(0), 0);
            s.is("who comes then", x.traveller(3, 0, 0, 0), 0);
            s.is("again the same image", x.undo(), 0);
            TurnBack six = Houses.of(0, 0, 1, 2, 3, 4, 5);
            six.image();
            s.is("six", six.undo(), 6);
            TurnBack full = Houses.of(0, 0);
            full.image();
            for (int i = 0; i < 10; i++) {
                full.see(0, 0, 1);
                full.plan(0, 0);
                full.book(0, 1);
            }
            full.undo();
            s.is("nothing seen", full.count(2), 0);
            s.is("no plan", full.count(3), 0);
            s.is("no book", full.count(4), 0);
            s.is("and nothing of it goes on", full.can(0, 0, 0), 100);
        });
        s.holds("All is as THE IMAGE", () -> {
            TurnBack x = Houses.of(0, 0);
            for (int i = 0; i < 10; i++) {
                x.see(0, i, i);
                x.plan(i % 4, 0);
                x.book(0, i);
            }
            x.image();
            x.see(-1, 0, 0);
            x.plan(-1, 0);
            x.book(-1, 0);
            s.is("one", x.undo(), 1);
            s.is("five seen", x.count(2), 5);
            s.is("ten rows of the plan", x.count(3), 10);
            s.is("eight rows of the book", x.count(4), 8);
            s.is("and a sixth is too many", x.see(0, 0, 0), -4);
        });
        s.holds("STATE: there is none.", () -> {
            s.refuses(TurnBack::new, -3, "nobody", x -> x.undo());
            s.refuses(() -> Houses.of("pay 4", 3, 0, 6), -3, "travellers and a season", x -> x.undo());
        });
    }
}
