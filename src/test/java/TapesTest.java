/** Promises 30 to 33: tapes, their items, shifting. */
public final class TapesTest {
    private static final long NO = Long.MIN_VALUE;
    private static final Due due = new Due("TapesTest");

    public static void main(String[] args) {
        tape();
        itemsOfEachSort();
        item();
        read();
        shift();
        shiftWithinOne();
        shiftWrong();
        due.end();
    }

    private static void tape() {
        TurnBack x = new TurnBack();
        due.is("60", x.tape(0, 2, 60), 1);
        due.is("0", x.tape(5, 4, 0), 1);
        due.is("the last item", x.item(0, 59, 9), 1);
        due.is("the first item", x.item(0, 0, 9), 1);
        due.is("all 0 again", x.tape(0, 2, 60), 1);
        due.is("the last item's", x.read(0, 59), 0);
        due.is("the first item's", x.read(0, 0), 0);
        x.item(0, 3, 9);
        due.is("nothing", x.tape(0, -1, 61), 1);
        due.is("nothing is there", x.read(0, 0), NO);
        due.is("nothing is there for an item", x.item(0, 3, 1), -11);
        due.is("nothing, n below 0", x.tape(0, -1, Integer.MIN_VALUE), 1);
        due.is("anew", x.tape(0, 3, 5), 1);
        due.is("all 0", x.read(0, 3), 0);
        due.is("five", x.read(0, 5), NO);
        x.tape(0, 3, 2);
        due.is("tape -1", x.tape(-1, 0, 0), -1);
        due.is("tape 6", x.tape(6, 0, 0), -1);
        due.is("NONE ahead of BAD", x.tape(6, 5, 0), -1);
        due.is("NONE wherever nothing comes", x.tape(6, -1, 0), -1);
        due.is("sort -2", x.tape(0, -2, 0), -2);
        due.is("sort 5", x.tape(0, 5, 0), -2);
        due.is("n 61", x.tape(0, 0, 61), -2);
        due.is("n -1", x.tape(0, 0, -1), -14);
        due.is("far below", x.tape(0, 0, Integer.MIN_VALUE), -14);
        due.is("BAD ahead of SIZE", x.tape(0, 5, -1), -2);
        due.is("what was stands", x.read(0, 1), 0);
    }

    private static void put(TurnBack x, int sort, long v, long want) {
        x.tape(1, sort, 3);
        due.is("item", x.item(1, 1, v), 1);
        due.is(v + " as sort " + sort, x.read(1, 1), want);
        due.is("ahead of it", x.read(1, 0), 0);
        due.is("behind it", x.read(1, 2), 0);
    }

    private static void itemsOfEachSort() {
        TurnBack x = new TurnBack();
        long[] given = {0, 1, -1, 127, 128, 255, 256, 32767, 32768, 65536, Integer.MAX_VALUE, 1L << 31, 1L << 32,
            Long.MAX_VALUE, Long.MIN_VALUE, Long.MIN_VALUE + 1};
        for (long v : given) {
            put(x, 0, v, (byte) v);
            put(x, 1, v, (short) v);
            put(x, 2, v, (int) v);
            put(x, 3, v, v);
            put(x, 4, v, v == 0 ? 0 : 1);
        }
    }

    private static void item() {
        TurnBack x = new TurnBack();
        x.tape(2, 2, 3);
        due.is("the first", x.item(2, 0, 4), 1);
        due.is("the last", x.item(2, 2, 6), 1);
        due.is("place -1", x.item(2, -1, 6), -13);
        due.is("place 3", x.item(2, 3, 6), -13);
        due.is("nothing there", x.item(3, 0, 6), -11);
        due.is("NOTHING ahead of PLACE", x.item(3, -1, 6), -11);
        due.is("tape -1", x.item(-1, 0, 6), -1);
        due.is("tape 6", x.item(6, 0, 6), -1);
        x.tape(3, 0, 0);
        due.is("a row of none", x.item(3, 0, 6), -13);
        due.is("the first's", x.read(2, 0), 4);
        due.is("the last's", x.read(2, 2), 6);
    }

    private static void read() {
        TurnBack x = new TurnBack();
        x.tape(2, 2, 3);
        due.is("0", x.read(2, 0), 0);
        due.is("place -1", x.read(2, -1), NO);
        due.is("place 3", x.read(2, 3), NO);
        due.is("nothing there", x.read(3, 0), NO);
        due.is("tape -1", x.read(-1, 0), NO);
        due.is("tape 6", x.read(6, 0), NO);
        due.is("far", x.read(Integer.MIN_VALUE, Integer.MAX_VALUE), NO);
    }

    private static TurnBack row(int tape, int sort, int n) {
        TurnBack x = new TurnBack();
        row(x, tape, sort, n);
        return x;
    }

    private static void row(TurnBack x, int tape, int sort, int n) {
        x.tape(tape, sort, n);
        for (int i = 0; i < n; i++) {
            x.item(tape, i, 10 * (tape + 1) + i);
        }
    }

    private static void reads(TurnBack x, int tape, long... want) {
        long[] got = new long[want.length];
        for (int i = 0; i < want.length; i++) {
            got[i] = x.read(tape, i);
        }
        due.are("tape " + tape, got, want);
    }

    private static void shift() {
        TurnBack x = row(0, 1, 4);
        row(x, 1, 1, 6);
        due.is("three", x.shift(0, 1, 1, 2, 3), 3);
        reads(x, 1, 20, 21, 11, 12, 13, 25);
        reads(x, 0, 10, 11, 12, 13);
        due.is("all", x.shift(0, 0, 1, 0, 4), 4);
        reads(x, 1, 10, 11, 12, 13, 13, 25);
        due.is("none", x.shift(0, 4, 1, 6, 0), 0);
        due.is("to the last", x.shift(0, 3, 1, 5, 1), 1);
        reads(x, 1, 10, 11, 12, 13, 13, 13);
        row(x, 5, 1, 2);
        due.is("to tape 5", x.shift(0, 1, 5, 0, 1), 1);
        reads(x, 5, 11, 61);
        due.is("from tape 5", x.shift(5, 1, 0, 0, 1), 1);
        reads(x, 0, 61, 11, 12, 13);
    }

    private static void shiftWithinOne() {
        TurnBack x = row(0, 3, 5);
        due.is("on", x.shift(0, 0, 0, 1, 4), 4);
        reads(x, 0, 10, 10, 11, 12, 13);
        TurnBack y = row(0, 4, 5);
        y.item(0, 0, 0);
        due.is("down", y.shift(0, 0, 0, 2, 3), 3);
        reads(y, 0, 0, 1, 0, 1, 1);
        TurnBack z = row(0, 0, 5);
        due.is("back", z.shift(0, 2, 0, 0, 3), 3);
        reads(z, 0, 12, 13, 14, 13, 14);
        due.is("where it is", z.shift(0, 0, 0, 0, 5), 5);
        reads(z, 0, 12, 13, 14, 13, 14);
    }

    private static void shiftWrong() {
        TurnBack x = row(0, 2, 4);
        row(x, 1, 2, 6);
        row(x, 2, 3, 4);
        due.is("tape -1", x.shift(-1, 0, 0, 0, 1), -1);
        due.is("tape 6", x.shift(6, 0, 0, 0, 1), -1);
        due.is("other -1", x.shift(0, 0, -1, 0, 1), -1);
        due.is("other 6", x.shift(0, 0, 6, 0, 1), -1);
        due.is("NONE ahead of NOTHING", x.shift(3, 0, 6, 0, 1), -1);
        due.is("nothing to come from", x.shift(3, 0, 0, 0, 1), -11);
        due.is("nothing to come to", x.shift(0, 0, 3, 0, 1), -11);
        due.is("nothing at all", x.shift(4, 0, 3, 0, 0), -11);
        due.is("unlike sorts", x.shift(0, 0, 2, 0, 1), -12);
        due.is("CAST ahead of PLACE", x.shift(0, -1, 2, 0, 1), -12);
        due.is("unlike sorts, no item", x.shift(0, 0, 2, 0, 0), -12);
        due.is("n -1", x.shift(0, 0, 1, 0, -1), -13);
        due.is("i -1", x.shift(0, -1, 1, 0, 1), -13);
        due.is("j -1", x.shift(0, 0, 1, -1, 1), -13);
        due.is("beyond the one", x.shift(0, 1, 1, 0, 4), -13);
        due.is("beyond the other", x.shift(1, 0, 0, 0, 5), -13);
        due.is("beyond the other's end", x.shift(0, 0, 1, 3, 4), -13);
        due.is("none from beyond", x.shift(0, 5, 1, 0, 0), -13);
        due.is("none to beyond", x.shift(0, 0, 1, 7, 0), -13);
        due.is("far", x.shift(0, Integer.MAX_VALUE, 1, Integer.MAX_VALUE, Integer.MAX_VALUE), -13);
        due.is("near", x.shift(0, Integer.MIN_VALUE, 1, 0, Integer.MIN_VALUE), -13);
        due.is("far by n", x.shift(0, 1, 1, 1, Integer.MAX_VALUE), -13);
        reads(x, 0, 10, 11, 12, 13);
        reads(x, 1, 20, 21, 22, 23, 24, 25);
    }
}
