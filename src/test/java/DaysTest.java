/** Promises 11 to 13: days that go, days asked of, paying. */
public final class DaysTest {
    private static final Due due = new Due("DaysTest");

    public static void main(String[] args) {
        pass();
        whereEachGoes();
        whoTurns();
        oneBehindTheOther();
        on();
        onBeyondTheLastDay();
        paysCheap();
        paysRich();
        paysBag();
        paysWrong();
        due.end();
    }

    private static void pass() {
        TurnBack x = Houses.of(0, 0);
        due.is("0 days", x.pass(0), 0);
        due.is("60 days", x.pass(60), 60);
        due.is("-1", x.pass(-1), -2);
        due.is("61", x.pass(61), -2);
        due.is("far", x.pass(Integer.MAX_VALUE), -2);
        for (int day = 120; day <= 9960; day += 60) {
            due.is("on to " + day, x.pass(60), day);
        }
        due.is("above 9999", x.pass(40), -3);
        due.is("stands", x.told(0), 9960);
        due.is("9999", x.pass(39), 9999);
        due.is("no day", x.pass(0), 9999);
        due.is("one day", x.pass(1), -3);
        due.is("BAD ahead of STATE", x.pass(61), -2);
        due.is("stands at the end", x.told(0), 9999);
    }

    private static void walks(TurnBack x, int... places) {
        for (int i = 0; i < places.length; i++) {
            due.is("place on step " + i, x.of(0, 3), places[i]);
            x.pass(1);
        }
    }

    private static void whereEachGoes() {
        TurnBack on = Houses.of("pay 0", 0, 0);
        walks(on, 0, 1, 2, 3, 4, 5, 6, 7, 8, 9, 10, 10, 10);
        TurnBack back = Houses.of(7, 0);
        back.back(0, true);
        back.purse(0);
        walks(back, 7, 6, 5, 4, 3, 2, 1, 0, 1, 2, 3, 4, 5, 6);
        TurnBack home = Houses.of(1, 0);
        home.back(0, true);
        home.pass(1);
        due.is("home: not back any more", home.of(0, 4), 0);
        TurnBack bar = Houses.of(5, 0);
        bar.pass(1);
        due.is("who is at the bar now goes on", bar.of(0, 3), 6);
        due.is("and is paid nothing", bar.told(2), 500);
        TurnBack past = Houses.of(6, 0);
        past.back(0, true);
        past.pass(1);
        due.is("who comes to the bar back is paid nothing", past.told(2), 500);
        due.is("and has not turned", past.of(0, 5), 0);
        due.is("and stays back", past.of(0, 4), 1);
    }

    /** Whether one at place 4 turns: the purse, whether it is back, turned, worth after one day. */
    private static void turns(String season, int kind, int v, int worth, int purse, long... want) {
        TurnBack x = new TurnBack();
        x.traveller(kind, v, worth, 4);
        Houses.season(x, season);
        x.purse(purse);
        x.pass(1);
        long[] got = {x.told(2), x.of(0, 4), x.of(0, 5), x.of(0, 2)};
        due.are(season + ", worth " + worth + ", purse " + purse, got, want);
        due.is("at the bar", x.of(0, 3), 5);
    }

    private static void whoTurns() {
        turns("pay 10", 0, 0, 0, 500, 490, 1, 1, 3);
        turns("pay 10", 0, 0, 10, 500, 490, 1, 1, 13);
        turns("pay 10", 0, 0, 11, 500, 500, 0, 0, 11);
        turns("pay 10", 0, 0, 5, 10, 0, 1, 1, 8);
        turns("pay 10", 0, 0, 5, 9, 9, 0, 0, 5);
        turns("pay 0", 0, 0, 0, 500, 500, 0, 0, 0);
        turns("pay 1", 0, 0, 0, 500, 499, 1, 1, 3);
        turns("pay 1;less 2 p=0", 0, 0, 0, 500, 500, 0, 0, 0);
        turns("pay 99", 0, 0, 96, 500, 401, 1, 1, 99);
        turns("pay 99", 0, 0, 97, 500, 401, 1, 1, 99);
        turns("pay 99", 0, 0, 99, 99, 0, 1, 1, 99);
        turns("pay 99", 1, 9, 99, 500, 392, 1, 1, 99);
        turns("pay 9", 1, 1, 10, 500, 490, 1, 1, 13);
        turns("pay 9", 2, 0, 4, 500, 496, 1, 1, 7);
        turns("pay 9", 2, 0, 5, 500, 500, 0, 0, 5);
        turns("pay 9", 5, 0, 9, 500, 491, 1, 1, 12);
    }

    private static void oneBehindTheOther() {
        TurnBack x = Houses.of(4, 0, 0, 0);
        x.purse(29);
        x.pass(1);
        due.is("two are paid", x.told(2), 9);
        due.is("the first two", x.told(4), 3);
        due.is("all are at the bar", x.told(5), 7);
        // The day that a test or an offer sees is the one that goes, not the next.
        TurnBack day = Houses.of("pay 0;more 9 d=0", 4, 0);
        day.pass(1);
        due.is("on day 0", day.told(2), 491);
        TurnBack late = Houses.of("pay 0;more 9 d=1", 4, 0);
        late.pass(1);
        due.is("not on day 1", late.told(2), 500);
        // The soldier goes first: the other is still at place 4.
        TurnBack first = Houses.of(4, 4, 0);
        first.pass(1);
        due.is("a soldier ahead", first.told(2), 480);
        TurnBack last = Houses.of(4, 0, 4);
        last.pass(1);
        due.is("a soldier behind", last.told(2), 470);
        TurnBack gone = new TurnBack();
        gone.traveller(0, 0, 0, 5);
        gone.traveller(4, 0, 0, 4);
        gone.traveller(0, 0, 0, 5);
        gone.pass(1);
        due.is("one has left the bar, one not yet", gone.told(2), 480);
    }

    private static void on() {
        TurnBack x = new TurnBack();
        x.traveller(0, 0, 8, 0);
        x.traveller(0, 0, 99, 1);
        due.is("now: purse", x.on(0, 0), 500);
        due.is("now: city", x.on(0, 1), 0);
        due.is("5: purse", x.on(5, 0), 490);
        due.is("9: city", x.on(9, 1), 2);
        due.is("8: city", x.on(8, 1), 0);
        due.is("7: place", x.on(7, 10), 3);
        due.is("7: place of the other", x.on(7, 11), 8);
        due.is("20: city", x.on(20, 1), 3);
        due.is("60: turned", x.on(60, 20), 1);
        due.is("60: turned of the other", x.on(60, 21), 0);
        due.is("4: not turned", x.on(4, 20), 0);
        due.is("-1 days", x.on(-1, 0), -2);
        due.is("61 days", x.on(61, 0), -2);
        for (int what : new int[] {-1, 2, 9, 12, 19, 22, 30, Integer.MAX_VALUE, Integer.MIN_VALUE}) {
            due.is("nothing " + what, x.on(1, what), -1);
        }
        due.is("NONE ahead of BAD", x.on(61, 2), -1);
        due.is("changes nothing: day", x.told(0), 0);
        due.is("changes nothing: purse", x.told(2), 500);
        due.is("changes nothing: place", x.of(0, 3), 0);
        due.is("changes nothing: worth", x.of(0, 2), 8);
        due.is("nobody to ask of", new TurnBack().on(1, 10), -1);
        TurnBack bride = new TurnBack();
        bride.traveller(1, 7, 17, 4);
        bride.traveller(6, 0, 13, 4);
        bride.row(1, 0, 3);
        due.is("a bride's and one told's", bride.on(1, 0), 470);
        due.is("what pays asks is over", bride.pays(1, 2) + bride.on(1, 0), 49 + 470);
        due.is("what odds asks is over", bride.odds(0, 1, 0) + bride.on(1, 0), 470);
        bride.see(0, 2, 4);
        due.is("what can asks is over", bride.can(0, 1, 1) + bride.on(1, 0), 7 + 470);
    }

    private static void onBeyondTheLastDay() {
        TurnBack x = new TurnBack();
        x.traveller(5, 0, 0, 0);
        x.set(0, 0, 99);
        x.set(0, 1, 10);
        Houses.pass(x, 9999);
        x.set(0, 1, 4);
        x.set(0, 0, 10);
        // Day 9999 is 3 modulo 7, and day 9999 is 9 modulo 10.
        Houses.season(x, "pay 10;more 10 d=9");
        due.is("on the last day", x.on(1, 0), 490);
        x.set(0, 1, 0);
        // Day 10003 comes to the bar: 10003 is 0 modulo 7.
        due.is("day 10003", x.on(5, 0), 490);
        due.is("back home on day 10009", x.on(10, 10), 0);
        x.set(0, 1, 1);
        due.is("day 10002", x.on(5, 0), 500);
        due.is("gets there beyond", x.of(0, 7), 9);
    }

    private static void paysCheap() {
        TurnBack x = new TurnBack();
        due.is("nobody", x.pays(20, 0), 0);
        due.is("nobody, how many", x.pays(20, 1), 0);
        x.traveller(0, 0, 7, 0);
        due.is("9 days", x.pays(9, 0), 0);
        due.is("10 days", x.pays(10, 0), 7);
        due.is("10 days, how many", x.pays(10, 1), 0);
        due.is("19 days", x.pays(19, 0), 7);
        due.is("20 days", x.pays(20, 0), 10);
        due.is("1 day", x.pays(1, 0), 0);
        x.traveller(0, 0, 99, 0);
        due.is("one can't be kept", x.pays(10, 0), 7);
        due.is("that one", x.pays(10, 1), 1);
        x.set(0, 0, 49);
        due.is("49 is enough", x.pays(10, 0), 49);
        x.set(0, 0, 50);
        due.is("50 would be too much", x.pays(10, 0), 0);
        due.is("both", x.pays(10, 1), 2);
        Houses.season(x, "more 20 p=0;pay 49");
        due.is("the clauses stay", x.pays(10, 0), 30);
        Houses.season(x, "pay 0");
        x.set(0, 0, 20);
        x.purse(30);
        due.is("the least of several", x.pays(10, 0), 20);
        x.set(1, 0, 20);
        due.is("not both by this purse", x.pays(10, 0), 20);
        due.is("one of them", x.pays(10, 1), 1);
        due.is("changes nothing: pay", x.told(1), 0);
        due.is("changes nothing: day", x.told(0), 0);
    }

    private static void paysRich() {
        TurnBack x = new TurnBack();
        due.is("nobody", x.pays(1, 2), 49);
        x.purse(0);
        due.is("nothing is there", x.pays(1, 2), -5);
        x.traveller(0, 0, 0, 0);
        x.purse(49);
        due.is("5 days", x.pays(5, 2), 48);
        due.is("4 days", x.pays(4, 2), 49);
        x.purse(10);
        due.is("what can't be paid leaves it", x.pays(5, 2), 49);
        x.purse(98);
        due.is("twice", x.pays(15, 2), 48);
        due.is("once", x.pays(14, 2), 49);
        Houses.season(x, "pay 3;more 40 p=0");
        x.purse(60);
        due.is("the clauses stay", x.pays(5, 2), 49);
        x.purse(89);
        due.is("the clauses stay here, too", x.pays(5, 2), 48);
        x.purse(1);
        due.is("1 is enough", x.pays(20, 2), 49);
    }

    private static void paysBag() {
        TurnBack x = new TurnBack();
        due.is("nobody", x.pays(5, 3), 0);
        x.traveller(0, 0, 50, 0);
        x.traveller(0, 0, 5, 0);
        x.traveller(0, 0, 99, 0);
        due.is("9 days", x.pays(9, 3), 0);
        due.is("10 days", x.pays(10, 3), 5);
        due.is("20 days", x.pays(20, 3), 5);
        x.set(1, 0, 8);
        due.is("the middle one goes on the second time", x.pays(20, 3), 7);
        x.set(1, 1, 10);
        due.is("one is there", x.pays(1, 3), -5);
        TurnBack two = new TurnBack();
        two.traveller(0, 0, 50, 4);
        two.traveller(0, 0, 50, 4);
        Houses.season(two, "pay 10;more 40 w>4");
        two.purse(60);
        due.is("either would do", two.pays(6, 3), 1);
        two.purse(100);
        due.is("none is needed", two.pays(6, 3), 0);
        two.purse(19);
        due.is("nothing helps", two.pays(6, 3), -5);
        two.purse(20);
        due.is("both", two.pays(6, 3), 3);
        TurnBack three = new TurnBack();
        three.traveller(0, 0, 30, 4);
        three.traveller(0, 0, 30, 4);
        three.traveller(0, 0, 90, 4);
        Houses.season(three, "pay 10;more 20 w=3;more 80 w=9");
        three.purse(115);
        due.is("one ahead of two", three.pays(6, 3), 4);
        due.is("changes nothing: worth", three.of(2, 2), 90);
        due.is("changes nothing: purse", three.told(2), 115);
        TurnBack six = Houses.of("pay 10", 4, 0, 0, 0, 0, 0, 0);
        for (int t = 0; t < 6; t++) {
            six.set(t, 0, 99);
        }
        due.is("all six", six.pays(6, 3), 63);
        TurnBack zero = Houses.of("pay 3", 0, 0);
        zero.set(0, 0, 99);
        due.is("worth 0, then 3", zero.pays(20, 3), 1);
    }

    private static void paysWrong() {
        TurnBack x = Houses.of(0, 0);
        for (int what = 0; what <= 3; what++) {
            due.is("0 days", x.pays(0, what), -2);
            due.is("21 days", x.pays(21, what), -2);
            due.is("-1 days", x.pays(-1, what), -2);
        }
        due.is("nothing -1", x.pays(1, -1), -1);
        due.is("nothing 4", x.pays(1, 4), -1);
        due.is("NONE ahead of BAD", x.pays(0, 4), -1);
    }
}
