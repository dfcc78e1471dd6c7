/** Long runs of calls, each answered by the class and by the model; all promises together. */
public final class ModelTest {
    private static final Due due = new Due("ModelTest");
    private static final int RUNS = 700, CALLS = 512;

    private final Dice dice;
    private final TurnBack x = new TurnBack();
    private final Model m = new Model();
    private final int run;
    private int calls;

    private ModelTest(int run) {
        this.run = run;
        dice = new Dice(run);
    }

    public static void main(String[] args) {
        for (int run = 0; run < RUNS; run++) {
            new ModelTest(run).go();
        }
        due.end();
    }

    private void is(String call, long got, long want) {
        calls++;
        due.is("run " + run + ", call " + calls + ": " + call, got, want);
    }

    private void go() {
        int travellers = dice.upTo(8);
        for (int i = 0; i < travellers; i++) {
            traveller();
        }
        while (calls < CALLS - 101) {
            if (dice.once(20)) {
                season();
            } else if (dice.once(3)) {
                change();
            } else {
                ask();
            }
            if (dice.once(3)) {
                state();
            }
        }
    }

    private int one() {
        return dice.around(0, Math.max(0, x.count(0) - 1));
    }

    private void traveller() {
        int kind = dice.around(0, 6);
        int v = dice.around(0, 9);
        int worth = dice.once(2) ? dice.around(0, 99) : dice.upTo(20);
        int place = dice.around(0, 10);
        is("traveller(" + kind + "," + v + "," + worth + "," + place + ")", x.traveller(kind, v, worth, place),
            m.traveller(kind, v, worth, place));
    }

    private void season() {
        String text = dice.once(3) ? Texts.maybeFaulty(dice) : Texts.good(dice, dice.between(1, 4));
        for (int i = 0; i < text.length() && calls < CALLS - 2; i++) {
            is("feed '" + text.charAt(i) + "'", x.feed(text.charAt(i)), m.feed(text.charAt(i)));
        }
        is("season() of '" + text + "'", x.season(), m.season());
    }

    private void state() {
        int what = dice.upTo(6);
        is("told(" + what + ")", x.told(what), m.told(what));
        int t = one();
        what = dice.around(0, 7);
        is("of(" + t + "," + what + ")", x.of(t, what), m.of(t, what));
    }

    private void change() {
        int t = one();
        int n;
        int what;
        switch (dice.upTo(12)) {
            case 0:
                traveller();
                return;
            case 1:
                what = dice.around(0, 1);
                n = dice.around(0, dice.once(2) ? 99 : 10);
                is("set(" + t + "," + what + "," + n + ")", x.set(t, what, n), m.set(t, what, n));
                return;
            case 2:
                boolean is = dice.once(2);
                is("back(" + t + "," + is + ")", x.back(t, is), m.back(t, is));
                return;
            case 3:
                n = dice.once(2) ? dice.around(0, 99999) : dice.upTo(200);
                is("purse(" + n + ")", x.purse(n), m.purse(n));
                return;
            case 4:
                what = dice.around(0, 3);
                n = dice.around(0, 9);
                is("row(" + t + "," + what + "," + n + ")", x.row(t, what, n), m.row(t, what, n));
                return;
            case 5:
                n = dice.around(0, 127);
                is("feed(" + n + ")", x.feed(n), m.feed(n));
                return;
            case 6:
                is("image()", x.image(), m.image());
                return;
            case 7:
                is("undo()", x.undo(), m.undo());
                return;
            default:
                n = dice.once(3) ? dice.around(0, 60) : dice.upTo(8);
                is("pass(" + n + ")", x.pass(n), m.pass(n));
        }
    }

    private void ask() {
        switch (dice.upTo(6)) {
            case 0:
                days();
                return;
            case 1:
                seen();
                return;
            case 2:
                plans();
                return;
            case 3:
                acts();
                return;
            default:
                tapes();
        }
    }

    private void days() {
        int t = one();
        int n = dice.around(0, 60);
        int part = dice.around(0, 1);
        int what = dice.once(2) ? dice.around(0, 3) : dice.around(10, 26);
        is("on(" + n + "," + what + ")", x.on(n, what), m.on(n, what));
        is("odds(" + t + "," + n + "," + part + ")", x.odds(t, n, part), m.odds(t, n, part));
        is("mean(" + n + "," + part + ")", x.mean(n, part), m.mean(n, part));
        n = dice.around(1, 20);
        what = dice.around(0, 3);
        is("pays(" + n + "," + what + ")", x.pays(n, what), m.pays(n, what));
    }

    private void seen() {
        int t = dice.once(9) ? -1 : one();
        int n = dice.around(0, 12);
        int place = dice.around(0, 10);
        // Mostly what comes true, so that there is something to count.
        if (!dice.once(3) && x.count(0) > 0 && t >= 0 && t < x.count(0) && n >= 0 && n <= 60) {
            place = x.on(n, 10 + t);
        }
        is("see(" + t + "," + n + "," + place + ")", x.see(t, n, place), m.see(t, n, place));
        t = one();
        int which = dice.around(0, 1);
        int what = dice.around(0, 1);
        is("can(" + t + "," + which + "," + what + ")", x.can(t, which, what), m.can(t, which, what));
        is("places(" + t + ")", x.places(t), m.places(t));
    }

    private void plans() {
        int what = dice.once(3) ? 0 : dice.around(-1, 4);
        int t = one();
        is("plan(" + what + "," + t + ")", x.plan(what, t), m.plan(what, t));
        what = dice.around(0, 1);
        is("ends(" + what + ")", x.ends(what), m.ends(what));
        t = dice.once(9) ? -1 : one();
        int place = t >= 0 && t < x.count(0) && !dice.once(3) ? x.of(t, 3) : dice.around(0, 10);
        is("book(" + t + "," + place + ")", x.book(t, place), m.book(t, place));
        is("looked()", x.looked(), m.looked());
    }

    private void acts() {
        int t = one();
        int act = dice.around(0, 2);
        int given = dice.once(3) ? dice.around(0, 0) * 77 : dice.between(-99, 99);
        is("act(" + t + "," + act + "," + given + ")", x.act(t, act, given), m.act(t, act, given));
        int i = dice.around(0, 12);
        is("trace(" + i + ")", x.trace(i), m.trace(i));
        int k = dice.around(0, 6);
        is("taken(" + t + "," + k + ")", x.taken(t, k), m.taken(t, k));
        int what = dice.around(0, 6);
        is("count(" + what + ")", x.count(what), m.count(what));
    }

    private void tapes() {
        int tape = dice.around(0, 5);
        int other = dice.once(2) ? tape : dice.around(0, 5);
        int i = dice.once(2) ? dice.around(0, 7) : dice.upTo(3);
        int j = dice.once(2) ? dice.around(0, 7) : dice.upTo(3);
        int n = dice.around(0, dice.once(4) ? 60 : 9);
        switch (dice.upTo(6)) {
            case 0:
                int sort = dice.once(2) ? 4 : dice.around(-1, 4);
                is("tape(" + tape + "," + sort + "," + n + ")", x.tape(tape, sort, n), m.tape(tape, sort, n));
                return;
            case 1:
                is("shift(" + tape + "," + i + "," + other + "," + j + "," + n + ")", x.shift(tape, i, other, j, n),
                    m.shift(tape, i, other, j, n));
                return;
            case 2:
                is("judge(" + tape + "," + i + ")", x.judge(tape, i), m.judge(tape, i));
                return;
            case 3:
                is("read(" + tape + "," + i + ")", x.read(tape, i), m.read(tape, i));
                return;
            default:
                long v = dice.once(2) ? dice.upTo(2) : (long) dice.around(0, 400) * dice.around(-300, 1 << 30);
                is("item(" + tape + "," + i + "," + v + ")", x.item(tape, i, v), m.item(tape, i, v));
                is("read(" + tape + "," + i + ")", x.read(tape, i), m.read(tape, i));
        }
    }
}
