import java.util.function.Supplier;

/** The sentences of promises 26 to 33 that name a boundary: acts, taking, counting, tapes. */
public final class ActsSentencesTest {
    private static final int MAX = Integer.MAX_VALUE, MIN = Integer.MIN_VALUE;
    private static final long NO = Long.MIN_VALUE;

    public static void main(String[] args) {
        Sentences s = new Sentences("ActsSentencesTest");
        all(s);
        s.end();
    }

    static void all(Sentences s) {
        act(s);
        trace(s);
        taken(s);
        count(s);
        tape(s);
        item(s);
        read(s);
        shift(s);
        shiftRefused(s);
    }

    private static void act(Sentences s) {
        s.in("Promise 26");
        s.holds("An ACT (0 walks, 1 sighs, 2 tells) of a TRAVELLER with x.", () -> {
            TurnBack x = new TurnBack();
            for (int t = 0; t < 6; t++) {
                x.traveller(0, 9 - t, 0, 0);
            }
            for (int t = 0; t < 6; t += 5) {
                s.is("walks of " + t, x.act(t, 0, 100), 100 + t);
                s.is("sighs of " + t, x.act(t, 1, 100), 91 + 2 * t);
                s.is("tells of " + t, x.act(t, 2, 100), 182 + 4 * t);
            }
            s.is("the least x", x.act(0, 0, MIN), MIN);
            s.is("the greatest x", x.act(0, 0, MAX), MAX);
            s.is("beyond it", x.act(5, 0, MAX), MIN + 4);
            s.is("below the least", x.act(0, 1, MIN), MAX - 8);
        });
        s.holds("0, and no TRACE then: no such one, act.", () -> {
            int[][] wrong = {{-1, 0}, {5, 0}, {6, 2}, {MIN, 1}, {MAX, 1}, {0, -1}, {0, 3}, {0, MIN}, {0, MAX}, {5, 3}};
            for (int[] one : wrong) {
                String call = "act(" + one[0] + ", " + one[1] + ", 7)";
                TurnBack x = Busy.house();
                s.is(call, x.act(one[0], one[1], 7), 0);
                s.is(call + ": no trace then", x.trace(0), -1);
                s.is(call + ": no bodies", x.count(6), 0);
                TurnBack other = Busy.house();
                other.act(1, 9, 8);
                s.same(call + " changes nothing else", x, other);
            }
            s.is("nobody", new TurnBack().act(0, 0, 7), 0);
        });
    }

    private static void trace(Sentences s) {
        s.in("Promise 27");
        s.holds("THE TRACE's i-th body.", () -> {
            TurnBack x = Houses.of(0, 6);
            x.act(0, 2, 7);
            int[] due = {40, 12, 70, 11, 71, 10, 10, 70, 11, 71, 10, 10};
            for (int i = 0; i < 12; i++) {
                s.is("trace(" + i + ")", x.trace(i), due[i]);
            }
        });
        s.holds("NONE.", () -> {
            for (int i : new int[] {-1, 12, 19, 20, 21, MIN, MAX}) {
                s.refuses(-1, "trace(" + i + ")", x -> x.trace(i));
            }
            s.is("no act yet", new TurnBack().trace(0), -1);
        });
    }

    private static void taken(Sentences s) {
        s.in("Promise 28");
        s.holds("A TRAVELLER taken for one of KIND k (0 .. 6), or one under that: its KIND.", () -> {
            int[][] above = {{0}, {0, 1}, {0, 2}, {0, 3}, {0, 1, 4}, {0, 2, 5}, {0, 3, 6}};
            for (int kind = 0; kind <= 6; kind++) {
                TurnBack x = Houses.of(0, kind);
                for (int k : above[kind]) {
                    s.is("kind " + kind + " for " + k, x.taken(0, k), kind);
                }
            }
        });
        s.holds("BAD: k", () -> {
            for (int k : new int[] {-1, 7, MIN, MAX}) {
                s.refuses(-2, "k " + k, x -> x.taken(0, k));
            }
        });
        s.holds("NOTHING: no such one", () -> {
            for (int traveller : new int[] {-1, 5, 6, MIN, MAX}) {
                s.refuses(-11, "traveller " + traveller, x -> x.taken(traveller, 0));
            }
            s.is("nobody", new TurnBack().taken(0, 0), -11);
        });
        s.holds("CAST.", () -> {
            int[][] beside = {{1, 2, 3, 4, 5, 6}, {2, 3, 4, 5, 6}, {1, 3, 4, 5, 6}, {1, 2, 4, 5, 6}, {2, 3, 5, 6},
                {1, 3, 4, 6}, {1, 2, 4, 5}};
            for (int kind = 0; kind <= 6; kind++) {
                TurnBack x = Houses.of(0, kind);
                for (int k : beside[kind]) {
                    s.is("kind " + kind + " for " + k, x.taken(0, k), -12);
                }
            }
            s.refuses(-12, "a bride for a soldier", x -> x.taken(1, 4));
        });
        s.holds("BAD: k; NOTHING: no such one; CAST.", () -> {
            s.refuses(-2, "k, traveller", x -> x.taken(5, 7));
            s.refuses(-2, "k, traveller below 0", x -> x.taken(-1, -1));
        });
    }

    private static void count(Sentences s) {
        s.in("Promise 29");
        s.holds("0 TRAVELLERS, 1 SEASONS, 2 SEEN, 3 of the PLAN, 4 of the BOOK, 5 bytes of THE TEXT, 6 bodies that ran in"
            + " the latest act() (all, kept or not).", () -> {
            for (int what = 0; what <= 6; what++) {
                s.is("a new object: " + what, new TurnBack().count(what), 0);
            }
            TurnBack x = new TurnBack();
            for (int row = 0; row < 12; row++) {
                x.traveller(6, 0, 0, 0);
                Houses.season(x, "pay 1");
                x.see(0, 0, 0);
                x.plan(0, 0);
                x.book(0, 0);
            }
            for (int sign = 0; sign < 101; sign++) {
                x.feed('p');
            }
            x.act(0, 2, 0);
            int[] most = {6, 6, 5, 10, 8, 100, 12};
            for (int what = 0; what <= 6; what++) {
                s.is("a full one: " + what, x.count(what), most[what]);
            }
            TurnBack longest = Houses.of(0, 6);
            longest.act(0, 2, 0);
            for (int more = 13; more <= 30; more++) {
                Inside.walkOn(longest);
            }
            s.is("all bodies, kept or not", longest.count(6), 30);
            longest.act(0, 0, 0);
            s.is("of the latest act alone", longest.count(6), 2);
        });
        s.holds("BAD.", () -> {
            for (int what : new int[] {-1, 7, MIN, MAX}) {
                s.refuses(-2, "what " + what, x -> x.count(what));
            }
        });
    }

    private static void tape(Sentences s) {
        s.in("Promise 30");
        s.holds("A TAPE becomes a row of n (0 .. 60) of a sort, all 0", () -> {
            TurnBack x = new TurnBack();
            for (int tape = 0; tape <= 5; tape++) {
                int sort = Math.min(tape, 4);
                s.is("60 on tape " + tape, x.tape(tape, sort, 60), 1);
                s.is("the last is 0", x.read(tape, 59), 0);
                s.is("none behind it", x.read(tape, 60), NO);
                x.item(tape, 0, 1);
                x.item(tape, 59, 1);
                s.is("60 again", x.tape(tape, sort, 60), 1);
                s.is("the first is 0 again", x.read(tape, 0), 0);
                s.is("the last is 0 again", x.read(tape, 59), 0);
                x.item(tape, 0, 1);
                s.is("1", x.tape(tape, sort, 1), 1);
                s.is("it is 0", x.read(tape, 0), 0);
                s.is("none behind it", x.read(tape, 1), NO);
                s.is("a row of no items", x.tape(tape, sort, 0), 1);
                s.is("none in it", x.read(tape, 0), NO);
                s.is("but a row", x.item(tape, 0, 1), -13);
            }
        });
        s.holds("or holds nothing (sort -1: n does not matter): 1.", () -> {
            for (int n : new int[] {0, 1, -1, 60, 61, MIN, MAX}) {
                TurnBack x = Busy.house();
                s.is("with " + n, x.tape(3, -1, n), 1);
                s.is("holds nothing", x.item(3, 0, 1), -11);
                s.is("nothing to read", x.read(3, 0), NO);
                s.is("nothing again", x.tape(3, -1, n), 1);
                x.tape(3, 3, 4);
                s.is("nothing is left in a row then", x.read(3, 1), 0);
            }
        });
        s.holds("NONE: tape", () -> {
            for (int tape : new int[] {-1, 6, MIN, MAX}) {
                s.refuses(-1, "tape " + tape, x -> x.tape(tape, 0, 1));
                s.refuses(-1, "tape " + tape + ", nothing", x -> x.tape(tape, -1, 0));
            }
        });
        s.holds("BAD: sort, n above 60", () -> {
            for (int sort : new int[] {-2, 5, MIN, MAX}) {
                s.refuses(-2, "sort " + sort, x -> x.tape(0, sort, 1));
            }
            for (int n : new int[] {61, MAX}) {
                s.refuses(-2, "n " + n, x -> x.tape(0, 0, n));
            }
        });
        s.holds("SIZE.", () -> {
            for (int n : new int[] {-1, -60, MIN}) {
                s.refuses(-14, "n " + n, x -> x.tape(0, 4, n));
            }
        });
        s.holds("NONE: tape; BAD: sort, n above 60; SIZE.", () -> {
            s.refuses(-1, "tape, sort", x -> x.tape(6, 5, 1));
            s.refuses(-1, "tape, n", x -> x.tape(6, 0, 61));
            s.refuses(-1, "tape, size", x -> x.tape(-1, 0, -1));
            s.refuses(-2, "sort, size", x -> x.tape(0, 5, -1));
            s.refuses(-2, "sort -2, size", x -> x.tape(0, -2, -1));
        });
    }

    private static void keeps(Sentences s, int sort, long v, long want) {
        TurnBack x = new TurnBack();
        x.tape(2, sort, 3);
        s.is("item", x.item(2, 1, v), 1);
        s.is(v + " as sort " + sort, x.read(2, 1), want);
        s.is("the one ahead of it", x.read(2, 0), 0);
        s.is("the one behind it", x.read(2, 2), 0);
    }

    private static void item(Sentences s) {
        s.in("Promise 31");
        s.holds("Item i of a TAPE becomes v (its lowest bits, as many as an item has; booleans: whether v is not 0): 1.",
            () -> {
            long[][] bytes = {{127, 127}, {128, -128}, {-128, -128}, {-129, 127}, {255, -1}, {256, 0}, {NO, 0},
                {Long.MAX_VALUE, -1}, {-1, -1}};
            long[][] shorts = {{32767, 32767}, {32768, -32768}, {-32768, -32768}, {-32769, 32767}, {65535, -1}, {65536, 0},
                {NO, 0}, {Long.MAX_VALUE, -1}};
            long[][] ints = {{MAX, MAX}, {MAX + 1L, MIN}, {MIN, MIN}, {MIN - 1L, MAX}, {(1L << 32) - 1, -1}, {1L << 32, 0},
                {NO, 0}, {Long.MAX_VALUE, -1}};
            long[][] longs = {{NO, NO}, {Long.MAX_VALUE, Long.MAX_VALUE}, {0, 0}, {-1, -1}, {1L << 32, 1L << 32}};
            long[][] booleans = {{0, 0}, {1, 1}, {-1, 1}, {2, 1}, {256, 1}, {1L << 32, 1}, {NO, 1}, {Long.MAX_VALUE, 1}};
            long[][][] sorts = {bytes, shorts, ints, longs, booleans};
            for (int sort = 0; sort <= 4; sort++) {
                for (long[] one : sorts[sort]) {
                    keeps(s, sort, one[0], one[1]);
                }
            }
            TurnBack most = new TurnBack();
            most.tape(5, 3, 60);
            s.is("the first place", most.item(5, 0, 4), 1);
            s.is("the last place", most.item(5, 59, 5), 1);
            s.is("the first", most.read(5, 0), 4);
            s.is("the last", most.read(5, 59), 5);
        });
        s.holds("NONE", () -> {
            for (int tape : new int[] {-1, 6, MIN, MAX}) {
                s.refuses(-1, "tape " + tape, x -> x.item(tape, 0, 1));
            }
        });
        s.holds("NOTHING", () -> s.refuses(-11, "tape 5", x -> x.item(5, 0, 1)));
        s.holds("PLACE.", () -> {
            for (int i : new int[] {-1, 4, MIN, MAX}) {
                s.refuses(-13, "place " + i, x -> x.item(0, i, 1));
            }
            TurnBack none = new TurnBack();
            none.tape(0, 0, 0);
            s.is("a row of no items", none.item(0, 0, 1), -13);
        });
        s.holds("NONE; NOTHING; PLACE.", () -> {
            s.refuses(-1, "tape, place", x -> x.item(6, -1, 1));
            s.refuses(-11, "nothing, place", x -> x.item(5, -1, 1));
        });
    }

    private static void read(Sentences s) {
        s.in("Promise 32");
        s.holds("Item i of a TAPE.", () -> {
            TurnBack x = new TurnBack();
            x.tape(0, 3, 60);
            x.tape(5, 4, 1);
            x.item(0, 0, 3);
            x.item(0, 59, 4);
            x.item(5, 0, 9);
            s.is("the first", x.read(0, 0), 3);
            s.is("the last", x.read(0, 59), 4);
            s.is("the only", x.read(5, 0), 1);
        });
        s.holds("NO: no such TAPE, nothing there, no such place.", () -> {
            for (int tape : new int[] {-1, 6, MIN, MAX}) {
                s.refuses(NO, "tape " + tape, x -> x.read(tape, 0));
            }
            s.refuses(NO, "nothing there", x -> x.read(5, 0));
            for (int i : new int[] {-1, 4, MIN, MAX}) {
                s.refuses(NO, "place " + i, x -> x.read(0, i));
            }
            TurnBack none = new TurnBack();
            none.tape(0, 0, 0);
            s.is("a row of no items", none.read(0, 0), NO);
        });
    }

    /** Tape 0: ints 1 2 3 4; tape 1: ints 0 0 0 0 0 0. */
    private static TurnBack rows() {
        TurnBack x = new TurnBack();
        x.tape(0, 2, 4);
        x.tape(1, 2, 6);
        for (int i = 0; i < 4; i++) {
            x.item(0, i, i + 1);
        }
        return x;
    }

    private static void shifts(Sentences s, int i, int other, int j, int n, long... want) {
        TurnBack x = rows();
        String call = "shift(0, " + i + ", " + other + ", " + j + ", " + n + ")";
        s.is(call, x.shift(0, i, other, j, n), n);
        for (int k = 0; k < want.length; k++) {
            s.is(call + ": item " + k, x.read(other, k), want[k]);
        }
        if (other != 0) {
            for (int k = 0; k < 4; k++) {
                s.is(call + ": where they came from " + k, x.read(0, k), k + 1);
            }
        }
    }

    private static void shift(Sentences s) {
        s.in("Promise 33");
        s.holds("n items of a TAPE from i on come to another one (or the same) from j on, as they all were before: n.",
            () -> {
            shifts(s, 0, 1, 0, 0, 0, 0, 0, 0, 0, 0);
            shifts(s, 4, 1, 6, 0, 0, 0, 0, 0, 0, 0);
            shifts(s, 0, 1, 0, 4, 1, 2, 3, 4, 0, 0);
            shifts(s, 0, 1, 2, 4, 0, 0, 1, 2, 3, 4);
            shifts(s, 3, 1, 5, 1, 0, 0, 0, 0, 0, 4);
            shifts(s, 1, 1, 0, 2, 2, 3, 0, 0, 0, 0);
            shifts(s, 0, 0, 1, 3, 1, 1, 2, 3);
            shifts(s, 1, 0, 0, 3, 2, 3, 4, 4);
            shifts(s, 0, 0, 0, 4, 1, 2, 3, 4);
            shifts(s, 0, 0, 3, 1, 1, 2, 3, 1);
            TurnBack most = new TurnBack();
            most.tape(4, 0, 60);
            most.tape(5, 0, 60);
            most.item(4, 59, 7);
            s.is("60 items", most.shift(4, 0, 5, 0, 60), 60);
            s.is("the last of them", most.read(5, 59), 7);
            TurnBack none = new TurnBack();
            none.tape(2, 4, 0);
            s.is("a row of no items to itself", none.shift(2, 0, 2, 0, 0), 0);
        });
    }

    private static void shiftRefused(Sentences s) {
        s.holds("NONE: tapes", () -> {
            for (int tape : new int[] {-1, 6, MIN, MAX}) {
                s.refuses(-1, "from tape " + tape, x -> x.shift(tape, 0, 0, 0, 1));
                s.refuses(-1, "to tape " + tape, x -> x.shift(0, 0, tape, 0, 1));
            }
        });
        s.holds("NOTHING", () -> {
            s.refuses(-11, "from", x -> x.shift(5, 0, 0, 0, 1));
            s.refuses(-11, "to", x -> x.shift(0, 0, 5, 0, 1));
            s.refuses(-11, "both", x -> x.shift(5, 0, 5, 0, 0));
        });
        s.holds("CAST: of unlike sorts", () -> {
            for (int sort = 0; sort <= 4; sort++) {
                for (int other = 0; other <= 4; other++) {
                    TurnBack x = new TurnBack();
                    x.tape(0, sort, 2);
                    x.tape(1, other, 2);
                    s.is("sort " + sort + " to " + other, x.shift(0, 0, 1, 0, 2), sort == other ? 2 : -12);
                }
            }
            s.refuses(-12, "no items", x -> x.shift(0, 0, 2, 0, 0));
        });
        s.holds("PLACE: n, i or j is below 0, or beyond either's end.", () -> {
            Supplier<TurnBack> rows = ActsSentencesTest::rows;
            int[][] wrong = {{0, 0, -1}, {-1, 0, 1}, {0, -1, 1}, {-1, 0, 0}, {0, -1, 0}, {1, 0, 4}, {0, 3, 4}, {4, 0, 1},
                {0, 6, 1}, {5, 0, 0}, {0, 7, 0}, {0, 0, 5}, {MAX, 0, 1}, {0, MAX, 1}, {0, 0, MAX}, {MAX, MAX, MAX},
                {MIN, 0, 1}, {0, MIN, 1}, {0, 0, MIN}, {1, 1, MAX}, {MIN, 0, MAX}, {4, 0, -1}, {0, 6, -1}};
            for (int[] one : wrong) {
                s.refuses(rows, -13, "shift(0, " + one[0] + ", 1, " + one[1] + ", " + one[2] + ")",
                    x -> x.shift(0, one[0], 1, one[1], one[2]));
            }
            s.refuses(rows, -13, "beyond the other's end", x -> x.shift(1, 0, 0, 0, 5));
            s.refuses(rows, -13, "beyond its own end", x -> x.shift(0, 1, 0, 2, 3));
        });
        s.holds("NONE: tapes; NOTHING; CAST: of unlike sorts; PLACE: n, i or j is below 0, or beyond either's end.", () -> {
            s.refuses(-1, "tape, nothing, place", x -> x.shift(6, -1, 5, -1, -1));
            s.refuses(-1, "nothing, tape, place", x -> x.shift(5, -1, 6, -1, -1));
            s.refuses(-1, "tape, place", x -> x.shift(0, -1, -1, 0, 1));
            s.refuses(-11, "nothing, place", x -> x.shift(5, -1, 0, -1, -1));
            s.refuses(-11, "to nothing, place", x -> x.shift(0, -1, 5, -1, 61));
            s.refuses(-12, "sorts, place", x -> x.shift(2, 5, 3, 0, 1));
            s.refuses(-12, "sorts, n below 0", x -> x.shift(2, 0, 3, 0, -1));
        });
    }
}
