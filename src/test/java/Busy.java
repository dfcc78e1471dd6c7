/** An object that holds something of everything, and all that can be asked of an object. */
final class Busy {
    private static final int MOST_LOOKS = 400;

    private final TurnBack x;
    private final long[] looks = new long[MOST_LOOKS];
    private int count;

    private Busy(TurnBack x) {
        this.x = x;
    }

    /** Five travellers, two seasons, two of six tapes like each other; an image of other days; about 120 calls. */
    static TurnBack house() {
        TurnBack x = new TurnBack();
        x.traveller(6, 3, 8, 4);
        x.traveller(1, 5, 20, 2);
        x.traveller(4, 2, 30, 1);
        x.traveller(2, 1, 4, 7);
        x.traveller(5, 9, 6, 3);
        for (int part = 0; part < 4; part++) {
            x.row(0, part, part + 1);
        }
        Houses.season(x, "pay 20;more 9 w<3");
        x.pass(2);
        x.back(3, true);
        x.purse(300);
        seen(x, 1, 2);
        seen(x, 3, 4);
        x.plan(2, 1);
        x.plan(0, 0);
        x.book(1, x.of(1, 3));
        x.book(2, 0);
        x.image();
        Houses.season(x, "pay 25;less 4 d>6&p>0");
        x.pass(1);
        x.set(2, 0, 31);
        x.set(1, 1, 3);
        x.row(0, 2, 8);
        x.see(-1, 0, 0);
        seen(x, 4, 1);
        seen(x, 0, 12);
        x.plan(1, 2);
        x.plan(3, 4);
        x.book(-1, 0);
        x.book(3, x.of(3, 3));
        x.book(4, x.of(4, 3));
        x.book(0, 0);
        for (int tape = 0; tape < 5; tape++) {
            x.tape(tape, tape == 1 ? 0 : tape, 4);
            x.item(tape, 1, 1 + tape);
        }
        Houses.feed(x, "pay 1");
        x.act(0, 2, 5);
        return x;
    }

    /** Tells of one what comes true, so that each other answer of its days is seen. */
    private static void seen(TurnBack x, int t, int days) {
        x.see(t, days, x.on(days, 10 + t));
    }

    /** What an object answers when it is asked all it knows, then reads its text, then is undone: some 300 calls. */
    static long[] probe(TurnBack x) {
        Busy busy = new Busy(x);
        busy.travellers();
        busy.tapes();
        busy.look(x.season());
        busy.travellers();
        busy.look(x.undo());
        busy.travellers();
        return busy.looks;
    }

    private void look(long answer) {
        looks[count] = answer;
        count++;
    }

    private void travellers() {
        for (int what = 0; what <= 6; what++) {
            look(x.count(what));
        }
        for (int what = 0; what <= 5; what++) {
            look(x.told(what));
        }
        look(x.on(8, 0));
        look(x.on(60, 0));
        look(x.on(60, 1));
        look(x.looked());
        look(x.ends(0));
        look(x.ends(1));
        int there = x.count(0);
        for (int t = 0; t < there; t++) {
            traveller(t);
        }
    }

    private void traveller(int t) {
        for (int what = 0; what <= 7; what++) {
            look(x.of(t, what));
        }
        look(x.places(t));
        look(x.can(t, 0, 0));
        look(x.can(t, 1, 0));
        if (x.of(t, 0) == 6) {
            for (int part = 0; part < 4; part++) {
                int was = x.row(t, part, 0);
                x.row(t, part, was);
                look(was);
            }
        }
    }

    private void tapes() {
        for (int i = 0; i <= 12; i++) {
            look(x.trace(i));
        }
        for (int tape = 0; tape < 6; tape++) {
            look(x.judge(tape, 0));
            for (int i = 0; i < 5; i++) {
                look(x.read(tape, i));
            }
        }
    }
}
