import java.util.function.Supplier;

/** The sentences of promises 1 to 10 that name a boundary: a new object, travellers, the text, seasons, what is told. */
public final class TravellersSentencesTest {
    private static final int MAX = Integer.MAX_VALUE, MIN = Integer.MIN_VALUE;

    public static void main(String[] args) {
        Sentences s = new Sentences("TravellersSentencesTest");
        all(s);
        s.end();
    }

    static void all(Sentences s) {
        aNewObject(s);
        traveller(s);
        travellerRefused(s);
        of(s);
        set(s);
        back(s);
        purse(s);
        row(s);
        rowRefused(s);
        feed(s);
        season(s);
        seasonRefused(s);
        told(s);
    }

    private static void aNewObject(Sentences s) {
        s.in("Promise 1");
        s.holds("No TRAVELLERS", () -> {
            TurnBack x = new TurnBack();
            s.is("count", x.count(0), 0);
            s.is("number 0", x.of(0, 0), -10001);
            s.is("in the city", x.told(3), 0);
            s.is("back", x.told(4), 0);
            s.is("at the bar", x.told(5), 0);
            s.is("mean", x.mean(0, 0), Long.MIN_VALUE);
            s.is("judged", x.judge(0, 0), -5);
            s.is("image", x.image(), 0);
            for (int what = 2; what <= 6; what++) {
                s.is("count(" + what + ")", x.count(what), 0);
            }
        });
        s.holds("no SEASON.", () -> {
            TurnBack x = new TurnBack();
            s.is("count", x.count(1), 0);
            s.is("pay", x.told(1), 10);
            s.is("the first one's number", Houses.season(x, "pay 1"), 0);
        });
    }

    private static void traveller(Sentences s) {
        s.in("Promise 2");
        s.holds("A TRAVELLER: its number.", () -> {
            TurnBack x = new TurnBack();
            int[][] comes = {{0, 0, 0, 0}, {6, 9, 99, 10}, {6, 0, 99, 0}, {0, 9, 0, 10}, {3, 4, 50, 5}, {1, 1, 1, 1}};
            for (int n = 0; n < 6; n++) {
                s.is("number", x.traveller(comes[n][0], comes[n][1], comes[n][2], comes[n][3]), n);
                s.is("how many", x.count(0), n + 1);
            }
            for (int n = 0; n < 6; n++) {
                for (int what = 0; what <= 3; what++) {
                    s.is("of(" + n + ", " + what + ")", x.of(n, what), comes[n][what]);
                }
                s.is("not back", x.of(n, 4), 0);
                s.is("not turned", x.of(n, 5), 0);
            }
        });
        s.holds("A TRAVELLER", () -> {
            // Whoever an undo() has sent away is not the one who comes then.
            TurnBack x = new TurnBack();
            x.image();
            x.traveller(6, 9, 99, 4);
            Houses.season(x, "pay 99");
            x.row(0, 0, 9);
            x.row(0, 3, 8);
            x.pass(1);
            x.undo();
            x.traveller(6, 0, 0, 4);
            int[] due = {6, 0, 0, 4, 0, 0, 10};
            for (int what = 0; what <= 6; what++) {
                s.is("of(0, " + what + ")", x.of(0, what), due[what]);
            }
            s.is("row at 0", x.row(0, 0, 0), 0);
            s.is("row at 3", x.row(0, 3, 0), 0);
        });
    }

    private static void travellerRefused(Sentences s) {
        Supplier<TurnBack> full = () -> {
            TurnBack x = Busy.house();
            x.traveller(3, 2, 1, 0);
            return x;
        };
        s.holds("NONE: kind, place (0 .. 10)", () -> {
            for (int kind : new int[] {-1, 7, MIN, MAX}) {
                s.refuses(-1, "kind " + kind, x -> x.traveller(kind, 0, 0, 0));
            }
            for (int place : new int[] {-1, 11, MIN, MAX}) {
                s.refuses(-1, "place " + place, x -> x.traveller(0, 0, 0, place));
            }
        });
        s.holds("BAD: v, worth", () -> {
            for (int v : new int[] {-1, 10, MIN, MAX}) {
                s.refuses(-2, "v " + v, x -> x.traveller(0, v, 0, 0));
            }
            for (int worth : new int[] {-1, 100, MIN, MAX}) {
                s.refuses(-2, "worth " + worth, x -> x.traveller(0, 0, worth, 0));
            }
        });
        s.holds("FULL: 6.", () -> {
            s.is("a sixth is none too many", Busy.house().traveller(0, 0, 0, 0), 5);
            s.refuses(full, -4, "a seventh", x -> x.traveller(0, 0, 0, 0));
        });
        s.holds("NONE: kind, place (0 .. 10); BAD: v, worth; FULL: 6.", () -> {
            s.refuses(full, -1, "kind, v, full", x -> x.traveller(7, 10, 0, 0));
            s.refuses(full, -1, "place, worth, full", x -> x.traveller(0, 0, 100, 11));
            s.refuses(full, -1, "kind, full", x -> x.traveller(-1, 0, 0, 0));
            s.refuses(full, -1, "place, full", x -> x.traveller(0, 0, 0, -1));
            s.refuses(full, -2, "v, full", x -> x.traveller(0, 10, 0, 0));
            s.refuses(full, -2, "worth, full", x -> x.traveller(0, 0, 100, 0));
        });
    }

    private static void of(Sentences s) {
        s.in("Promise 3");
        s.holds("what 0 KIND, 1 v, 2 WORTH, 3 PLACE, 4 whether it is BACK, 5 TURNED, 6 OFFER now, wherever it is, 7"
            + " GETS (-5).", () -> {
            TurnBack x = new TurnBack();
            x.traveller(2, 7, 4, 4);
            int[][] due = {{2, 7, 4, 4, 0, 0, 5, 16}, {2, 7, 7, 5, 1, 1, 5, 15}};
            for (int day = 0; day <= 1; day++) {
                for (int what = 0; what <= 7; what++) {
                    s.is("day " + day + ": of(0, " + what + ")", x.of(0, what), due[day][what]);
                }
                x.pass(1);
            }
            for (int place = 0; place <= 10; place++) {
                x.set(0, 1, place);
                s.is("offer at " + place, x.of(0, 6), 5);
            }
            s.is("gets, in the city", x.of(0, 7), 0);
            TurnBack late = Houses.of("pay 15", 0, 0);
            s.is("gets, not by 60 days", late.of(0, 7), -5);
        });
        s.holds("-10001: NONE.", () -> {
            for (int traveller : new int[] {-1, 5, 6, MIN, MAX}) {
                s.refuses(-10001, "traveller " + traveller, x -> x.of(traveller, 0));
            }
            for (int what : new int[] {-1, 8, MIN, MAX}) {
                s.refuses(-10001, "what " + what, x -> x.of(0, what));
            }
            s.is("of nobody", new TurnBack().of(0, 7), -10001);
        });
    }

    private static void set(Sentences s) {
        s.in("Promise 4");
        s.holds("0 WORTH (0 .. 99), 1 PLACE (0 .. 10; it is not BACK then) becomes n: what it was.", () -> {
            TurnBack x = Houses.of(3, 0);
            s.is("worth 0", x.set(0, 0, 0), 0);
            s.is("worth 99", x.set(0, 0, 99), 0);
            s.is("worth 1", x.set(0, 0, 1), 99);
            s.is("it is 1", x.of(0, 2), 1);
            s.is("place 0", x.set(0, 1, 0), 3);
            s.is("place 10", x.set(0, 1, 10), 0);
            s.is("place 9", x.set(0, 1, 9), 10);
            x.back(0, true);
            s.is("the same place", x.set(0, 1, 9), 9);
            s.is("not back then", x.of(0, 4), 0);
            x.back(0, true);
            x.set(0, 0, 50);
            s.is("a worth leaves it back", x.of(0, 4), 1);
            s.is("and where it is", x.of(0, 3), 9);
            x.set(0, 1, 1);
            s.is("a place leaves the worth", x.of(0, 2), 50);
        });
        s.holds("NONE: traveller, what", () -> {
            for (int traveller : new int[] {-1, 5, MIN, MAX}) {
                s.refuses(-1, "traveller " + traveller, x -> x.set(traveller, 0, 1));
            }
            for (int what : new int[] {-1, 2, MIN, MAX}) {
                s.refuses(-1, "what " + what, x -> x.set(0, what, 1));
            }
            s.is("of nobody", new TurnBack().set(0, 0, 0), -1);
        });
        s.holds("BAD.", () -> {
            for (int n : new int[] {-1, 100, MIN, MAX}) {
                s.refuses(-2, "worth " + n, x -> x.set(0, 0, n));
            }
            for (int n : new int[] {-1, 11, MIN, MAX}) {
                s.refuses(-2, "place " + n, x -> x.set(3, 1, n));
            }
        });
        s.holds("NONE: traveller, what; BAD.", () -> {
            s.refuses(-1, "traveller, n", x -> x.set(5, 0, 100));
            s.refuses(-1, "what, n", x -> x.set(0, 2, -1));
        });
    }

    private static void back(Sentences s) {
        s.in("Promise 5");
        s.holds("A TRAVELLER is BACK, or not: whether it was.", () -> {
            for (int place = 1; place <= 9; place++) {
                TurnBack x = Houses.of(place, 0);
                s.is("not, at " + place, x.back(0, false), 0);
                s.is("back", x.back(0, true), 0);
                s.is("it is", x.of(0, 4), 1);
                s.is("back again", x.back(0, true), 1);
                s.is("not", x.back(0, false), 1);
                s.is("it is not", x.of(0, 4), 0);
            }
        });
        s.holds("NONE", () -> {
            for (int traveller : new int[] {-1, 5, 6, MIN, MAX}) {
                s.refuses(-1, "traveller " + traveller, x -> x.back(traveller, true));
            }
            s.is("of nobody", new TurnBack().back(0, false), -1);
        });
        s.holds("STATE: it is home, or in the city.", () -> {
            for (boolean is : new boolean[] {true, false}) {
                s.refuses(() -> Houses.of(0, 6), -3, "home", x -> x.back(0, is));
                s.refuses(() -> Houses.of(10, 6), -3, "in the city", x -> x.back(0, is));
                s.refuses(() -> Houses.of(0, 6), -1, "NONE ahead of STATE", x -> x.back(1, is));
            }
        });
    }

    private static void purse(Sentences s) {
        s.in("Promise 6");
        s.holds("PURSE becomes n (0 .. 99999): what it was.", () -> {
            TurnBack x = new TurnBack();
            s.is("0", x.purse(0), 500);
            s.is("1", x.purse(1), 0);
            s.is("99999", x.purse(99999), 1);
            s.is("99998", x.purse(99998), 99999);
            s.is("told", x.told(2), 99998);
        });
        s.holds("BAD.", () -> {
            for (int n : new int[] {-1, 100000, MIN, MAX}) {
                s.refuses(-2, "purse " + n, x -> x.purse(n));
            }
        });
    }

    private static void row(Sentences s) {
        s.in("Promise 7");
        s.holds("The ROW of a TOLD one becomes n (0 .. 9) for DAYS modulo 4 being part: what it was.", () -> {
            TurnBack x = Houses.of(10, 6, 6);
            for (int part = 0; part <= 3; part++) {
                s.is("0, part " + part, x.row(0, part, 0), 0);
                s.is("9, part " + part, x.row(0, part, 9), 0);
                s.is("part " + part, x.row(0, part, part + 1), 9);
            }
            s.is("the other's", x.row(1, 0, 0), 0);
            for (int day = 0; day <= 9; day++) {
                s.is("offer on day " + day, x.of(0, 6), 11 + day % 4);
                s.is("the other's offer on day " + day, x.of(1, 6), 10);
                x.pass(1);
            }
        });
    }

    private static void rowRefused(Sentences s) {
        s.holds("NONE: traveller, part", () -> {
            for (int traveller : new int[] {-1, 5, MIN, MAX}) {
                s.refuses(-1, "traveller " + traveller, x -> x.row(traveller, 0, 1));
            }
            for (int part : new int[] {-1, 4, MIN, MAX}) {
                s.refuses(-1, "part " + part, x -> x.row(0, part, 1));
            }
        });
        s.holds("BAD", () -> {
            for (int n : new int[] {-1, 10, MIN, MAX}) {
                s.refuses(-2, "n " + n, x -> x.row(0, 1, n));
            }
        });
        s.holds("STATE: another KIND.", () -> {
            for (int kind = 0; kind <= 5; kind++) {
                TurnBack x = Houses.of(0, kind);
                s.is("kind " + kind, x.row(0, 0, 1), -3);
            }
            s.refuses(-3, "a bride", x -> x.row(1, 3, 1));
            s.refuses(-3, "a beggar", x -> x.row(3, 0, 0));
        });
        s.holds("NONE: traveller, part; BAD; STATE: another KIND.", () -> {
            s.refuses(-1, "traveller, n", x -> x.row(5, 0, 10));
            s.refuses(-1, "part, n", x -> x.row(0, 4, 10));
            s.refuses(-1, "part, kind", x -> x.row(1, 4, 1));
            s.refuses(-1, "part, n, kind", x -> x.row(1, -1, -1));
            s.refuses(-2, "n, kind", x -> x.row(1, 0, 10));
        });
    }

    private static void feed(Sentences s) {
        s.in("Promise 8");
        s.holds("A sign (0 .. 127) comes behind THE TEXT's: how many it has.", () -> {
            TurnBack x = new TurnBack();
            s.is("sign 0", x.feed(0), 1);
            s.is("sign 127", x.feed(127), 2);
            s.is("count", x.count(5), 2);
            x.season();
            for (int i = 1; i <= 5; i++) {
                s.is("sign " + i, x.feed("pay 7".charAt(i - 1)), i);
            }
            s.is("behind the others", x.season(), 0);
            s.is("as a season", x.told(1), 7);
            s.is("the first of the next text", x.feed('p'), 1);
        });
        s.holds("BAD", () -> {
            for (int sign : new int[] {-1, 128, 256 + 'p', MIN, MAX}) {
                s.refuses(-2, "sign " + sign, x -> x.feed(sign));
            }
        });
        Supplier<TurnBack> full = () -> {
            TurnBack x = Houses.of(3, 6, 0);
            Houses.feed(x, "more 1 p=0" + "&p=00".repeat(18));
            return x;
        };
        s.holds("FULL.", () -> {
            TurnBack x = new TurnBack();
            for (int i = 1; i <= 100; i++) {
                s.is("sign " + i, x.feed('p'), i);
            }
            s.is("sign 101", x.feed('p'), -4);
            s.is("count", x.count(5), 100);
            s.refuses(full, -4, "one more", y -> y.feed('1'));
        });
        s.holds("BAD; FULL.", () -> {
            s.refuses(full, -2, "sign 128", x -> x.feed(128));
            s.refuses(full, -2, "sign -1", x -> x.feed(-1));
        });
    }

    private static TurnBack sixSeasons(String text) {
        TurnBack x = Houses.of(3, 6, 0);
        for (int n = 0; n < 6; n++) {
            Houses.season(x, "pay " + (20 + n));
        }
        Houses.feed(x, text);
        return x;
    }

    private static void season(Sentences s) {
        s.in("Promise 9");
        s.holds("THE TEXT, which is empty then (by a FAULT, too), is a SEASON, and holds: its number.", () -> {
            TurnBack x = Houses.of(0, 0);
            for (int n = 0; n < 6; n++) {
                s.is("number", Houses.season(x, "pay " + n), n);
                s.is("the text is empty", x.count(5), 0);
                s.is("it holds", x.told(1), n);
                s.is("how many", x.count(1), n + 1);
            }
            TurnBack y = Houses.of(0, 0);
            s.is("a fault", Houses.season(y, "pay x"), -14);
            s.is("the text is empty by a fault, too", y.count(5), 0);
            s.is("so that the next is one by itself", Houses.season(y, "pay 3"), 0);
            s.is("the text with nothing in it", y.season(), -10);
        });
        s.holds("-10 less the FAULT (the one that held holds).", () -> {
            int[][] due = {{0, -10}, {1, -11}, {4, -14}, {5, -15}};
            String[] texts = {"", "p", "pay ", "pay 1~"};
            for (int i = 0; i < texts.length; i++) {
                String text = texts[i];
                TurnBack x = Houses.of("pay 33;more 4 p=0", 0, 0);
                s.is("fault of '" + text + "'", Houses.season(x, text), due[i][1]);
                s.is("pay", x.told(1), 33);
                s.is("clauses", x.of(0, 6), 37);
                s.is("how many", x.count(1), 1);
                s.is("the next one's number", Houses.season(x, "pay 1"), 1);
            }
            s.is("the greatest fault", Houses.season(new TurnBack(), "more 1 p=00" + "&p=0".repeat(22) + "&"), -110);
            s.is("without one that held", faultAlone().told(1), 10);
            // Clauses that were read ahead of a fault are none of the next season's.
            TurnBack next = Houses.of(0, 0);
            s.is("a fault behind clauses", Houses.season(next, "more 4 p=0;pay 44;less 1 p=0;more 8 p<6&"), -50);
            s.is("the next one", Houses.season(next, "more 1 p=0"), 0);
            s.is("by its clause alone", next.of(0, 6), 11);
            // A fault leaves nothing behind but a text that is empty.
            TurnBack before = Busy.house();
            TurnBack after = Busy.house();
            before.season();
            after.season();
            s.is("a fault behind clauses", Houses.season(after, "less 9 p=0;pay 44;more 8 p<6&"), -39);
            s.same("all is as without", after, before);
        });
    }

    private static TurnBack faultAlone() {
        TurnBack x = new TurnBack();
        Houses.season(x, "pay 44;");
        return x;
    }

    private static void seasonRefused(Sentences s) {
        s.holds("FULL: there are 6 (THE TEXT stays)", () -> {
            s.refuses(() -> sixSeasons("pay 7"), -4, "a seventh", x -> x.season());
            TurnBack x = sixSeasons("pay 7");
            x.season();
            s.is("the text stays", x.count(5), 5);
            s.is("the sixth holds", x.told(1), 25);
            s.is("there are 6", x.count(1), 6);
            s.is("a sign comes behind it", x.feed('7'), 6);
        });
        s.holds("FULL: there are 6 (THE TEXT stays); -10 less the FAULT", () -> {
            s.refuses(() -> sixSeasons("???"), -4, "a seventh that is none", x -> x.season());
            s.refuses(() -> sixSeasons(""), -4, "a seventh of nothing", x -> x.season());
        });
    }

    private static void told(Sentences s) {
        s.in("Promise 10");
        s.holds("What 0 DAY, 1 PAY, 2 PURSE, 3 which are in the city (bits), 4 BACK (bits), 5 at the BAR (bits).", () -> {
            TurnBack x = Houses.of(0, 0, 0, 0, 0, 0, 0);
            s.are("at home", all(x), 0, 10, 500, 0, 0, 0);
            for (int t = 0; t < 6; t++) {
                x.set(t, 1, 5);
            }
            s.are("at the bar", all(x), 0, 10, 500, 0, 0, 63);
            for (int t = 0; t < 6; t++) {
                x.back(t, true);
            }
            s.are("back", all(x), 0, 10, 500, 0, 63, 63);
            for (int t = 0; t < 6; t++) {
                x.set(t, 1, 10);
            }
            s.are("in the city", all(x), 0, 10, 500, 63, 0, 0);
            x.set(0, 1, 9);
            x.set(5, 1, 1);
            x.back(5, true);
            x.set(3, 1, 5);
            s.are("here and there", all(x), 0, 10, 500, 22, 32, 8);
            s.are("nobody", all(new TurnBack()), 0, 10, 500, 0, 0, 0);
            TurnBack paid = Houses.of("pay 0", 4, 0);
            Houses.pass(paid, 9999);
            paid.purse(0);
            s.are("the last day", all(paid), 9999, 0, 0, 1, 0, 0);
        });
        s.holds("NONE.", () -> {
            for (int what : new int[] {-1, 6, MIN, MAX}) {
                s.refuses(-1, "what " + what, x -> x.told(what));
            }
        });
    }

    private static long[] all(TurnBack x) {
        long[] told = new long[6];
        for (int what = 0; what <= 5; what++) {
            told[what] = x.told(what);
        }
        return told;
    }
}
