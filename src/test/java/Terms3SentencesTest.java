/** The sentences of the Terms, ==== 3, that name a boundary, those on answers, the constants, the 512 calls. */
public final class Terms3SentencesTest {
    private static final long NO = Long.MIN_VALUE;

    public static void main(String[] args) {
        Sentences s = new Sentences("Terms3SentencesTest");
        all(s);
        s.end();
    }

    static void all(Sentences s) {
        s.in("What it is");
        calls(s);
        s.in("The public face");
        constants(s);
        s.in("Terms 3");
        tapes(s);
        judged(s);
        refusals(s);
        s.in("Answers");
        answers(s);
        theFirst(s);
        nothingChanges(s);
    }

    private static void calls(Sentences s) {
        s.holds("An object is used for at most 512 calls after it has been made", () -> {
            TurnBack x = new TurnBack();
            for (int call = 1; call <= 510; call++) {
                x.feed(call % 128);
            }
            s.is("call 511", x.traveller(0, 0, 0, 4), 0);
            s.is("call 512", x.pass(60), 60);
            TurnBack y = new TurnBack();
            for (int call = 1; call <= 511; call++) {
                y.image();
            }
            s.is("call 512", y.undo(), 0);
        });
    }

    private static void constants(Sentences s) {
        s.holds("public static final int NONE = -1, BAD = -2, STATE = -3, FULL = -4;", () -> {
            s.is("NONE", TurnBack.NONE, -1);
            s.is("BAD", TurnBack.BAD, -2);
            s.is("STATE", TurnBack.STATE, -3);
            s.is("FULL", TurnBack.FULL, -4);
        });
        s.holds("public static final long NO = Long.MIN_VALUE;", () -> s.is("NO", TurnBack.NO, NO));
    }

    private static void tapes(Sentences s) {
        s.holds("TAPES 0 .. 5 hold nothing (at first)", () -> {
            TurnBack x = new TurnBack();
            for (int tape = 0; tape <= 5; tape++) {
                s.is("nothing to read on " + tape, x.read(tape, 0), NO);
                s.is("nothing for an item on " + tape, x.item(tape, 0, 1), -11);
                s.is("nothing to shift on " + tape, x.shift(tape, 0, tape, 0, 0), -11);
                s.is("a row on " + tape, x.tape(tape, 0, 1), 1);
                s.is("a row on " + tape, x.read(tape, 0), 0);
            }
            s.is("no tape -1", x.tape(-1, 0, 1), -1);
            s.is("no tape 6", x.tape(6, 0, 1), -1);
        });
        s.holds("a row of 0 bytes, 1 shorts, 2 ints, 3 longs, 4 booleans (items 0, 1)", () -> {
            long[] least = {Byte.MIN_VALUE, Short.MIN_VALUE, Integer.MIN_VALUE, Long.MIN_VALUE, 0};
            long[] greatest = {Byte.MAX_VALUE, Short.MAX_VALUE, Integer.MAX_VALUE, Long.MAX_VALUE, 1};
            TurnBack x = new TurnBack();
            for (int sort = 0; sort <= 4; sort++) {
                x.tape(sort, sort, 2);
                x.item(sort, 0, least[sort]);
                x.item(sort, 1, greatest[sort]);
                s.is("the least of sort " + sort, x.read(sort, 0), least[sort]);
                s.is("the greatest of sort " + sort, x.read(sort, 1), greatest[sort]);
            }
            s.is("no sort -2", x.tape(0, -2, 2), -2);
            s.is("no sort 5", x.tape(0, 5, 2), -2);
        });
    }

    /** As many travellers as are told, each back or not, and a row of booleans of its own length on tape 3. */
    private static TurnBack row(String back, String items) {
        TurnBack x = new TurnBack();
        for (int t = 0; t < back.length(); t++) {
            x.traveller(0, 0, 0, 3);
            x.back(t, back.charAt(t) == '1');
        }
        x.tape(3, 4, items.length());
        for (int i = 0; i < items.length(); i++) {
            x.item(3, i, items.charAt(i) - '0');
        }
        return x;
    }

    private static void judged(Sentences s) {
        s.holds("from a place on, one by one, is JUDGED: the first that is otherwise (counted from 0 from that place"
            + " on)", () -> {
            s.is("the first", row("101", "001").judge(3, 0), 0);
            s.is("the second", row("101", "111").judge(3, 0), 1);
            s.is("the third", row("101", "100").judge(3, 0), 2);
            s.is("the first of two", row("101", "110").judge(3, 0), 1);
            s.is("from place 2: the first", row("101", "10001").judge(3, 2), 0);
            s.is("from place 2: the second", row("101", "10111").judge(3, 2), 1);
            s.is("from place 2: the third", row("101", "01100").judge(3, 2), 2);
            s.is("the sixth", row("000001", "000000").judge(3, 0), 5);
            s.is("in the last place", row("1", "0".repeat(60)).judge(3, 59), 0);
        });
        s.holds("-5: none, or there are no TRAVELLERS (wherever the place is, also if the TAPE holds nothing)", () -> {
            s.is("none", row("101", "101").judge(3, 0), -5);
            s.is("none from place 2", row("101", "00101").judge(3, 2), -5);
            s.is("none, and more items", row("1", "10").judge(3, 0), -5);
            s.is("none of six", row("010101", "010101").judge(3, 0), -5);
            for (int place : new int[] {Integer.MIN_VALUE, -1, 0, 1, 2, 3, 60, Integer.MAX_VALUE}) {
                s.is("no travellers, place " + place, row("", "01").judge(3, place), -5);
                s.is("no travellers, a row of no items, place " + place, row("", "").judge(3, place), -5);
                s.is("no travellers, nothing there, place " + place, new TurnBack().judge(3, place), -5);
            }
        });
        s.holds("100 and how many were looked at, if the row ends ahead of that (or the place is below 0, or the TAPE"
            + " holds nothing).", () -> {
            s.is("after two", row("101", "10").judge(3, 0), 102);
            s.is("after one", row("101", "1").judge(3, 0), 101);
            s.is("after none", row("101", "").judge(3, 0), 100);
            s.is("after five", row("000001", "00000").judge(3, 0), 105);
            s.is("from the last place", row("101", "01").judge(3, 1), 101);
            s.is("from the end", row("101", "01").judge(3, 2), 100);
            s.is("from beyond", row("101", "01").judge(3, 3), 100);
            s.is("from far beyond", row("101", "01").judge(3, Integer.MAX_VALUE), 100);
            s.is("one is otherwise ahead of the end", row("101", "0").judge(3, 0), 0);
            s.is("the place is -1", row("101", "101").judge(3, -1), 100);
            s.is("the place is far below 0", row("101", "101").judge(3, Integer.MIN_VALUE), 100);
            s.is("nothing there", row("101", "101").judge(2, 0), 100);
            s.is("nothing there, place -1", row("101", "101").judge(2, -1), 100);
        });
    }

    private static void refusals(Sentences s) {
        s.holds("NOTHING (-11): nothing is there", () -> {
            s.refuses(-11, "item", x -> x.item(5, 0, 1));
            s.refuses(-11, "shift from", x -> x.shift(5, 0, 0, 0, 1));
            s.refuses(-11, "shift to", x -> x.shift(0, 0, 5, 0, 1));
            s.refuses(-11, "taken", x -> x.taken(5, 0));
        });
        s.holds("CAST (-12): another sort or KIND", () -> {
            s.refuses(-12, "judge", x -> x.judge(3, 0));
            s.refuses(-12, "shift", x -> x.shift(2, 0, 3, 0, 1));
            s.refuses(-12, "taken", x -> x.taken(0, 1));
        });
        s.holds("PLACE (-13): no such place", () -> {
            s.refuses(-13, "item", x -> x.item(0, 4, 1));
            s.refuses(-13, "shift", x -> x.shift(0, 1, 1, 0, 4));
        });
        s.holds("SIZE (-14): a size below 0.", () -> s.refuses(-14, "tape", x -> x.tape(0, 0, -1)));
    }

    private static void answers(Sentences s) {
        s.holds("NONE (-1) no such number", () -> {
            s.refuses(-1, "set", x -> x.set(5, 0, 0));
            s.refuses(-1, "told", x -> x.told(6));
            s.refuses(-1, "trace", x -> x.trace(12));
        });
        s.holds("BAD (-2) a number is not as told", () -> {
            s.refuses(-2, "purse", x -> x.purse(100000));
            s.refuses(-2, "pass", x -> x.pass(61));
            s.refuses(-2, "count", x -> x.count(7));
        });
        s.holds("STATE (-3) as told", () -> {
            s.refuses(-3, "row", x -> x.row(1, 0, 0));
            s.refuses(TurnBack::new, -3, "undo", x -> x.undo());
        });
        s.holds("FULL (-4)", () -> s.refuses(() -> Houses.of(4, 0, 1, 2, 3, 4, 5), -4, "traveller",
            x -> x.traveller(6, 0, 0, 0)));
        s.holds("Where it may be below 0, -10001 stands for NONE.", () -> {
            s.refuses(-10001, "of nobody", x -> x.of(5, 6));
            s.refuses(-10001, "of nothing", x -> x.of(0, 8));
            TurnBack x = Houses.of("pay 0;less 1 p=0", 0, 0);
            s.is("an offer of -1 is no NONE", x.of(0, 6), -1);
        });
        s.holds("`NO = Long.MIN_VALUE`: There is no such number.", () -> {
            s.refuses(NO, "read", x -> x.read(5, 0));
            s.refuses(NO, "odds", x -> x.odds(5, 0, 0));
            s.refuses(NO, "mean", x -> x.mean(61, 0));
        });
    }

    private static void theFirst(Sentences s) {
        s.holds("the first that a call's words name.", () -> {
            s.refuses(-1, "NONE ahead of BAD", x -> x.traveller(7, 10, 100, 11));
            s.refuses(-2, "BAD ahead of STATE", x -> x.row(1, 0, 10));
            s.refuses(() -> Houses.of(0, 0, 0, 0, 0, 0, 0), -2, "BAD ahead of FULL", x -> x.traveller(0, 10, 0, 0));
            s.refuses(-2, "BAD ahead of SIZE", x -> x.tape(0, 5, -1));
            s.refuses(-2, "BAD ahead of NOTHING", x -> x.taken(5, 7));
            s.refuses(-1, "NONE ahead of NOTHING", x -> x.shift(5, -1, 6, -1, -1));
            s.refuses(-11, "NOTHING ahead of CAST", x -> x.shift(5, -1, 0, -1, -1));
            s.refuses(-12, "CAST ahead of PLACE", x -> x.shift(2, -1, 3, -1, -1));
        });
    }

    private static void nothingChanges(Sentences s) {
        s.holds("What is answered so changes nothing", () -> {
            s.refuses(-1, "a place", x -> x.set(0, 2, 5));
            s.refuses(-2, "a place", x -> x.set(0, 1, 11));
            s.refuses(-1, "an item", x -> x.item(6, 0, 1));
            s.refuses(() -> Houses.of(3, 0), -3, "an undo", x -> x.undo());
        });
        s.holds("what is asked changes nothing.", () -> {
            s.asks("told", x -> x.told(0));
            s.asks("of", x -> x.of(0, 6));
            s.asks("judge", x -> x.judge(4, 0));
            s.asks("trace", x -> x.trace(0));
            s.asks("taken", x -> x.taken(0, 3));
            s.asks("count", x -> x.count(0));
            s.asks("read", x -> x.read(0, 0));
            s.asks("on", x -> x.on(60, 10));
            s.asks("pays", x -> x.pays(20, 3));
            s.asks("can", x -> x.can(0, 0, 1));
            s.asks("places", x -> x.places(0));
            s.asks("odds", x -> x.odds(0, 60, 1));
            s.asks("mean", x -> x.mean(60, 1));
            s.asks("ends", x -> x.ends(1));
            s.asks("looked", x -> x.looked());
        });
    }
}
