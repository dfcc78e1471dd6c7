/** Promises 26 to 29: acts, the trace, taking one for a kind, counting. */
public final class ActsTest {
    private static final Due due = new Due("ActsTest");

    public static void main(String[] args) {
        act();
        actsOfEachKind();
        actsThatWrap();
        actsOfNobody();
        trace();
        taken();
        count();
        due.end();
    }

    /** Number 0 .. 5 of the kinds, in an order by which number and v tell apart what is added. */
    private static TurnBack all(int... kinds) {
        TurnBack x = new TurnBack();
        for (int i = 0; i < kinds.length; i++) {
            x.traveller(kinds[i], i + 3, 0, 0);
        }
        return x;
    }

    private static void is(TurnBack x, int traveller, int act, int given, long want, long... trace) {
        String call = "act(" + traveller + ", " + act + ", " + given + ")";
        due.is(call, x.act(traveller, act, given), want);
        due.is(call + ": bodies", x.count(6), trace.length);
        for (int i = 0; i < trace.length; i++) {
            due.is(call + ": trace(" + i + ")", x.trace(i), trace[i]);
        }
        due.is(call + ": no trace behind it", x.trace(trace.length), -1);
    }

    private static void act() {
        TurnBack x = all(0, 0, 0);
        is(x, 2, 0, 10, 12, 10);
        is(x, 2, 1, 10, 7, 11, 10);
        is(x, 2, 2, 10, 14, 12, 11, 10);
        is(x, 0, 0, -4, -4, 10);
        due.is("changes nothing", x.of(2, 3), 0);
    }

    private static void actsOfEachKind() {
        // Number i, v i + 3.
        TurnBack x = all(0, 1, 2, 3, 4, 5);
        // BRIDE 1, v 4: walks 10 + 1; sighs (11 - 4) ^ 6; tells that twice.
        is(x, 1, 0, 10, 11, 10);
        is(x, 1, 1, 10, 1, 20, 11, 10);
        is(x, 1, 2, 10, 2, 12, 20, 11, 10);
        // BEGGAR 2, v 5: walks 30 + 2; sighs 32 - 5.
        is(x, 2, 0, 10, 32, 30, 10);
        is(x, 2, 1, 10, 27, 11, 30, 10);
        is(x, 2, 2, 10, 54, 12, 11, 30, 10);
        // POET 3, v 6: sighs 13 - 6; tells 14, and sighs(1) -2.
        is(x, 3, 0, 10, 13, 10);
        is(x, 3, 1, 10, 7, 11, 10);
        is(x, 3, 2, 10, 12, 40, 12, 11, 10, 11, 10);
        // SOLDIER 4, v 7: walks -14; sighs of 11: (-15 - 7) ^ 6.
        is(x, 4, 0, 10, -14, 50, 10);
        is(x, 4, 1, 10, -22 ^ 6, 51, 20, 11, 50, 10);
        is(x, 4, 2, 10, (-22 ^ 6) * 2, 12, 51, 20, 11, 50, 10);
        // CHILD 5, v 8: walks 30 + 5; tells of 5: 20 - 8, twice.
        is(x, 5, 0, 10, 35, 30, 10);
        is(x, 5, 1, 10, 27, 11, 30, 10);
        is(x, 5, 2, 10, 24, 60, 12, 11, 30, 10);
        // TOLD 2, v 5: walks 12 ^ 5; sighs 9 - 5, and walks above of 2; tells 16, and sighs(1) (6 - 5) + 4.
        TurnBack told = all(0, 0, 6);
        is(told, 2, 0, 10, 9, 71, 10);
        is(told, 2, 1, 10, 8, 70, 11, 71, 10, 10);
        is(told, 2, 2, 10, 21, 40, 12, 70, 11, 71, 10, 10, 70, 11, 71, 10, 10);
    }

    private static void actsThatWrap() {
        TurnBack x = all(0, 2, 4, 5);
        is(x, 1, 0, Integer.MAX_VALUE, Integer.MAX_VALUE * 3 + 1, 30, 10);
        is(x, 0, 1, Integer.MIN_VALUE, Integer.MIN_VALUE - 3, 11, 10);
        is(x, 0, 2, 1 << 30, (1 << 31) - 6, 12, 11, 10);
        is(x, 2, 0, Integer.MIN_VALUE - 2, Integer.MIN_VALUE, 50, 10);
        is(x, 3, 2, Integer.MIN_VALUE, ((Integer.MIN_VALUE - 3) * 3 + 3 - 6) * 2, 60, 12, 11, 30, 10);
    }

    private static void actsOfNobody() {
        TurnBack x = all(0, 3);
        for (int[] wrong : new int[][] {{-1, 0}, {2, 0}, {0, -1}, {0, 3}, {1, 3}, {1, -1}, {6, 9}}) {
            x.act(1, 2, 5);
            due.is("a trace", x.trace(0), 40);
            due.is("no such one, act", x.act(wrong[0], wrong[1], 5), 0);
            due.is("no trace then", x.trace(0), -1);
            due.is("no bodies then", x.count(6), 0);
        }
    }

    private static void trace() {
        TurnBack x = all(0, 3);
        due.is("none at first", x.trace(0), -1);
        x.act(1, 2, 5);
        x.act(0, 0, 5);
        due.is("the latest", x.trace(0), 10);
        due.is("the latest alone", x.trace(1), -1);
        due.is("-1", x.trace(-1), -1);
        due.is("20", x.trace(20), -1);
        due.is("far", x.trace(Integer.MAX_VALUE), -1);
        due.is("near", x.trace(Integer.MIN_VALUE), -1);
    }

    private static void taken() {
        TurnBack x = all(0, 1, 2, 3, 4, 5);
        // By bits: the kinds for which each kind can be taken.
        int[] under = {1, 3, 5, 9, 19, 37, 73};
        for (int t = 0; t < 6; t++) {
            for (int k = 0; k <= 6; k++) {
                due.is("taken(" + t + ", " + k + ")", x.taken(t, k), (under[t] >> k & 1) == 1 ? t : -12);
            }
        }
        TurnBack told = all(6);
        for (int k = 0; k <= 6; k++) {
            due.is("one told taken for " + k, told.taken(0, k), (under[6] >> k & 1) == 1 ? 6 : -12);
        }
        due.is("k -1", x.taken(0, -1), -2);
        due.is("k 7", x.taken(0, 7), -2);
        due.is("nobody -1", x.taken(-1, 0), -11);
        due.is("nobody 6", x.taken(6, 0), -11);
        due.is("BAD ahead of NOTHING", x.taken(6, 7), -2);
    }

    private static void count() {
        TurnBack x = all(0, 3, 6);
        Houses.season(x, "pay 1");
        Houses.season(x, "pay 2");
        for (int i = 0; i < 5; i++) {
            x.see(0, 0, 0);
        }
        for (int i = 0; i < 7; i++) {
            x.plan(0, 0);
        }
        for (int i = 0; i < 8; i++) {
            x.book(0, 0);
        }
        Houses.feed(x, "more");
        x.act(2, 2, 0);
        long[] counts = new long[7];
        for (int what = 0; what < 7; what++) {
            counts[what] = x.count(what);
        }
        due.are("counts", counts, 3, 2, 5, 7, 8, 4, 12);
        due.is("-1", x.count(-1), -2);
        due.is("7", x.count(7), -2);
    }
}
