/** The sentences of the Terms, ==== 2, that name a boundary: all that is asked, told by hand, acted, kept. */
public final class Terms2SentencesTest {
    private static final int MAX = Integer.MAX_VALUE, MIN = Integer.MIN_VALUE;

    public static void main(String[] args) {
        Sentences s = new Sentences("Terms2SentencesTest");
        all(s);
        s.end();
    }

    static void all(Sentences s) {
        s.in("Terms 2");
        asked(s);
        on(s);
        gets(s);
        cheap(s);
        rich(s);
        bag(s);
        seen(s);
        worths(s);
        can(s);
        places(s);
        odds(s);
        mean(s);
        plan(s);
        book(s);
        acts(s);
        bodies(s);
        trace(s);
        image(s);
        whatIsNotInTheImage(s);
    }

    private static void asked(Sentences s) {
        s.holds("All that follows is asked, goes on from how all is (DAYS, TURNED beyond 9999, too), and changes"
            + " nothing.", () -> {
            s.asks("on", x -> x.on(60, 0));
            s.asks("gets", x -> x.of(1, 7));
            s.asks("cheap", x -> x.pays(20, 0));
            s.asks("how many", x -> x.pays(20, 1));
            s.asks("rich", x -> x.pays(20, 2));
            s.asks("bag", x -> x.pays(20, 3));
            s.asks("worths", x -> x.can(0, 0, 0));
            s.asks("can", x -> x.can(1, 1, 1));
            s.asks("places", x -> x.places(4));
            s.asks("odds", x -> x.odds(2, 60, 0));
            s.asks("mean", x -> x.mean(60, 0));
            s.asks("ends", x -> x.ends(0));
            s.asks("looked", x -> x.looked());
        });
        s.holds("goes on from how all is", () -> {
            TurnBack x = new TurnBack();
            x.traveller(6, 0, 0, 4);
            x.traveller(1, 9, 0, 10);
            for (int part = 0; part < 4; part++) {
                x.row(0, part, part + 1);
            }
            for (int day = 0; day <= 5; day++) {
                s.is("by the row, on day " + day, x.on(1, 0), 500 - 10 - (day % 4 + 1));
                x.set(0, 1, 0);
                x.pass(1);
                x.set(0, 1, 4);
            }
            x.set(1, 1, 4);
            x.set(0, 1, 10);
            s.is("by its v", x.on(1, 0), 481);
            x.set(1, 0, 20);
            s.is("by its worth", x.on(1, 0), 500);
            x.set(1, 0, 19);
            x.purse(19);
            s.is("by the purse", x.on(1, 0), 0);
            x.set(1, 1, 6);
            x.back(1, true);
            s.is("by whether it is back", x.on(1, 11), 5);
            s.is("and by where it is", x.on(1, 0), 19);
            Inside.turn(x, 1, 3);
            s.is("by how often it turned", x.on(0, 21), 3);
            Houses.season(x, "pay 1");
            x.set(1, 1, 4);
            x.set(1, 0, 0);
            s.is("by the season", x.on(1, 0), 9);
        });
        s.holds("(DAYS, TURNED beyond 9999, too)", () -> {
            TurnBack x = Houses.of(10, 0, 5, 6);
            Houses.pass(x, 9999);
            x.set(0, 1, 4);
            Houses.season(x, "pay 0;more 7 d=9");
            s.is("on day 9999", x.on(1, 0), 493);
            x.set(0, 1, 3);
            s.is("on day 10000, which is 0 modulo 10", x.on(2, 0), 500);
            Houses.season(x, "pay 0;more 7 d=0");
            s.is("on day 10000", x.on(2, 0), 493);
            s.is("cheap on day 10000", x.pays(7, 1), 2);
            s.is("odds on day 10000", x.odds(0, 7, 0), 0);
            s.is("mean on day 10000", x.mean(2, 0), 1);
            // It turns on days 10000, 10010, 10020, for a worth of 0, 3, 6.
            s.is("it gets to the city from there", x.of(0, 7), 37);
            x.set(0, 1, 10);
            // 10003 is 0 modulo 7 and 3 modulo 4.
            Houses.season(x, "pay 10");
            x.set(1, 0, 10);
            x.set(1, 1, 0);
            s.is("a child on day 10003", x.on(5, 0), 490);
            x.set(1, 1, 1);
            s.is("a child on day 10002", x.on(5, 0), 500);
            x.set(1, 1, 10);
            x.row(2, 3, 9);
            x.set(2, 0, 19);
            x.set(2, 1, 0);
            s.is("one told on day 10003", x.on(5, 0), 481);
            x.set(2, 1, 1);
            s.is("one told on day 10002", x.on(5, 0), 500);
            s.is("the day is still", x.told(0), 9999);
            s.is("and no other comes", x.pass(1), -3);
            TurnBack often = Houses.of("pay 99;less 4 t=9", 4, 0);
            often.purse(99999);
            Inside.turn(often, 0, 9999);
            s.is("9999", often.of(0, 5), 9999);
            s.is("10000", often.on(1, 20), 10000);
            s.is("10000 alone", often.mean(1, 0), 10000);
            s.is("10005", often.on(60, 20), 10005);
            s.is("9999 is 9 modulo 10, 10000 is not", often.on(11, 0), 99999 - 95 - 99);
        });
    }

    /** One in the city; one at the bar, back, who comes there each tenth day and is paid 99. */
    private static TurnBack tenth() {
        TurnBack x = Houses.of("pay 99", 10, 0);
        x.traveller(0, 0, 0, 5);
        x.back(1, true);
        x.purse(99999);
        return x;
    }

    private static void on(Sentences s) {
        s.holds("ON n DAYS (0 .. 60): PLACE of one; TURNED of one; PURSE; which are in the city (bits).", () -> {
            TurnBack x = tenth();
            int[][] due = {{0, 5, 0, 99999}, {1, 4, 0, 99999}, {5, 0, 0, 99999}, {6, 1, 0, 99999}, {10, 5, 1, 99900},
                {59, 4, 5, 99504}, {60, 5, 6, 99405}};
            for (int[] one : due) {
                s.is("place on " + one[0], x.on(one[0], 11), one[1]);
                s.is("turned on " + one[0], x.on(one[0], 21), one[2]);
                s.is("purse on " + one[0], x.on(one[0], 0), one[3]);
                s.is("city on " + one[0], x.on(one[0], 1), 1);
            }
            s.is("-1 days", x.on(-1, 0), -2);
            s.is("61 days", x.on(61, 0), -2);
            TurnBack all = Houses.of("pay 0", 0, 0, 1, 2, 3, 4, 5);
            s.is("none of six", all.on(9, 1), 0);
            s.is("all six", all.on(10, 1), 63);
        });
    }

    private static void gets(Sentences s) {
        s.holds("GETS of one: the fewest DAYS (0 .. 60) behind which it is in the city (-5: not by then).", () -> {
            TurnBack x = Houses.of("pay 0", 0, 0);
            for (int place = 0; place <= 10; place++) {
                x.set(0, 1, place);
                s.is("from " + place, x.of(0, 7), 10 - place);
            }
            for (int place = 1; place <= 9; place++) {
                x.set(0, 1, place);
                x.back(0, true);
                s.is("back from " + place, x.of(0, 7), 10 + place);
            }
            // Worth 0, 3, 6, 9, 12 turn for 14, so that it is there on day 60.
            TurnBack late = Houses.of("pay 14", 0, 0);
            s.is("60", late.of(0, 7), 60);
            late.set(0, 1, 1);
            s.is("59", late.of(0, 7), 59);
            late.back(0, true);
            s.is("61 is not by then", late.of(0, 7), -5);
        });
    }

    private static void cheap(Sentences s) {
        s.holds("CHEAP of n DAYS (1 .. 20)", () -> {
            TurnBack x = new TurnBack();
            x.traveller(0, 0, 7, 9);
            s.is("1 day: how many", x.pays(1, 1), 1);
            x.set(0, 1, 0);
            // The first time 7 is enough; the second, on the 15th day, 10.
            s.is("19 days", x.pays(19, 0), 7);
            s.is("20 days", x.pays(20, 0), 10);
            s.is("0 days", x.pays(0, 0), -2);
            s.is("21 days", x.pays(21, 0), -2);
        });
        s.holds("the least PAY (0 .. 49) by which, were PAY that from now on, fewest are in the city behind n; how"
            + " many.", () -> {
            TurnBack x = new TurnBack();
            s.is("nobody: 0", x.pays(20, 0), 0);
            s.is("nobody: how many", x.pays(20, 1), 0);
            x.traveller(0, 0, 0, 4);
            s.is("worth 0: 1, as 0 is not more than 0", x.pays(6, 0), 1);
            s.is("worth 0: how many", x.pays(6, 1), 0);
            x.set(0, 0, 48);
            s.is("worth 48", x.pays(6, 0), 48);
            x.set(0, 0, 49);
            s.is("worth 49", x.pays(6, 0), 49);
            s.is("worth 49: how many", x.pays(6, 1), 0);
            x.set(0, 0, 50);
            s.is("worth 50: 0, as none helps", x.pays(6, 0), 0);
            s.is("worth 50: how many", x.pays(6, 1), 1);
            Houses.season(x, "pay 99;more 1 p=0");
            s.is("the clauses stay", x.pays(6, 0), 49);
            s.is("and pay", x.told(1), 99);
            x.traveller(0, 0, 20, 4);
            x.traveller(0, 0, 50, 4);
            x.set(0, 0, 10);
            s.is("fewest, not none", x.pays(6, 0), 20);
            s.is("fewest: how many", x.pays(6, 1), 1);
            TurnBack few = Houses.of(4, 0, 0);
            few.set(0, 0, 30);
            few.set(1, 0, 20);
            few.purse(30);
            s.is("the least of those that keep one away", few.pays(6, 0), 20);
            TurnBack all = Houses.of(9, 0, 0, 0, 0, 0, 0);
            s.is("all six: 0", all.pays(1, 0), 0);
            s.is("all six: how many", all.pays(1, 1), 6);
            all.set(3, 1, 4);
            all.set(3, 0, 30);
            s.is("five of six", all.pays(6, 0), 30);
            s.is("five of six: how many", all.pays(6, 1), 5);
        });
    }

    private static void rich(Sentences s) {
        s.holds("RICH of n DAYS (1 .. 20)", () -> {
            TurnBack x = Houses.of(4, 0);
            x.purse(49);
            s.is("1 day", x.pays(1, 2), 48);
            x.set(0, 1, 3);
            s.is("1 day, too early for it", x.pays(1, 2), 49);
            // It turns on the tenth and the twentieth day, for a worth of 0, then 3.
            x.set(0, 1, 5);
            x.back(0, true);
            x.purse(98);
            s.is("19 days", x.pays(19, 2), 49);
            s.is("20 days", x.pays(20, 2), 48);
            s.is("0 days", x.pays(0, 2), -2);
            s.is("21 days", x.pays(21, 2), -2);
        });
        s.holds("the greatest PAY (0 .. 49) by which PURSE is 1 or more behind n (-5: none).", () -> {
            TurnBack x = new TurnBack();
            s.is("nobody: 49", x.pays(1, 2), 49);
            x.purse(1);
            s.is("1 is there", x.pays(1, 2), 49);
            x.purse(0);
            s.is("0 is there", x.pays(1, 2), -5);
            x.traveller(0, 0, 0, 4);
            s.is("0 is there, and one", x.pays(1, 2), -5);
            x.purse(50);
            s.is("1 is left of 50", x.pays(1, 2), 49);
            x.purse(49);
            s.is("1 is left of 49", x.pays(1, 2), 48);
            x.purse(48);
            s.is("48 can't pay 49", x.pays(1, 2), 49);
            Houses.season(x, "pay 0;more 1 p=0");
            s.is("48 can pay 47 and 1: the clauses stay", x.pays(1, 2), 49);
            x.purse(50);
            s.is("50 can pay 49 and 1", x.pays(1, 2), 48);
        });
    }

    private static void bag(Sentences s) {
        s.holds("BAG of n DAYS (1 .. 20)", () -> {
            TurnBack x = new TurnBack();
            x.traveller(0, 0, 8, 9);
            s.is("1 day", x.pays(1, 3), -5);
            x.set(0, 1, 8);
            s.is("1 day, too early for it", x.pays(1, 3), 0);
            // It turns for 10 on the fifth day; then its worth is 11, if it was not 0.
            x.set(0, 1, 0);
            s.is("19 days", x.pays(19, 3), 0);
            s.is("20 days", x.pays(20, 3), 1);
            s.is("0 days", x.pays(0, 3), -2);
            s.is("21 days", x.pays(21, 3), -2);
        });
        s.holds("the set with the fewest TRAVELLERS (as bits; of several the least as bits) by whom, were the WORTH of"
            + " each of them 0 now, nobody is in the city behind n (-5: none).", () -> {
            s.is("nobody is there: the empty set", new TurnBack().pays(20, 3), 0);
            TurnBack x = Houses.of(4, 0, 0, 0);
            s.is("nobody gets there: the empty set", x.pays(6, 3), 0);
            x.set(1, 0, 11);
            s.is("one", x.pays(6, 3), 2);
            x.set(2, 0, 11);
            s.is("two", x.pays(6, 3), 6);
            x.set(0, 1, 10);
            s.is("one is in the city: none", x.pays(6, 3), -5);
            TurnBack all = Houses.of(4, 0, 0, 0, 0, 0, 0);
            for (int t = 0; t < 6; t++) {
                all.set(t, 0, 99);
            }
            s.is("all six", all.pays(6, 3), 63);
            all.purse(59);
            s.is("not enough for six: none", all.pays(6, 3), -5);
            // A worth of 0 is 3 the second time, on the 15th day.
            TurnBack second = Houses.of("pay 3", 0, 0);
            second.set(0, 0, 99);
            s.is("worth 0 turns twice for 3", second.pays(20, 3), 1);
            Houses.season(second, "pay 2");
            s.is("and once for 2", second.pays(20, 3), -5);
            // Either of two would leave enough for the other.
            TurnBack either = Houses.of("pay 10;more 40 w>4", 4, 0, 0);
            either.set(0, 0, 50);
            either.set(1, 0, 50);
            either.purse(60);
            s.is("of several the least", either.pays(6, 3), 1);
            // The third alone leaves enough, or the first two together.
            TurnBack fewest = Houses.of("pay 10;more 20 w=3;more 80 w=9", 4, 0, 0, 0);
            fewest.set(0, 0, 30);
            fewest.set(1, 0, 30);
            fewest.set(2, 0, 90);
            fewest.purse(115);
            s.is("the fewest, ahead of the least", fewest.pays(6, 3), 4);
        });
    }

    private static void seen(Sentences s) {
        s.holds("SEEN told by hand: a TRAVELLER, DAYS n (0 .. 12) from now, the PLACE it is in then", () -> {
            TurnBack x = Houses.of("pay 0", 0, 0);
            s.is("-1 days", x.see(0, -1, 0), -2);
            s.is("13 days", x.see(0, 13, 0), -2);
            s.is("0 days", x.see(0, 0, 0), 1);
            s.is("is so", x.can(0, 0, 0), 100);
            s.is("12 days", x.see(0, 12, 10), 2);
            s.is("is so", x.can(0, 0, 0), 100);
            x.see(-1, 0, 0);
            x.see(0, 12, 9);
            s.is("is not so", x.can(0, 0, 0), 0);
            s.is("nor by any place", x.places(0), 0);
            x.see(-1, 0, 0);
            x.see(0, 3, 3);
            x.pass(1);
            s.is("from now on, not from when it was told", x.can(0, 0, 0), 0);
            s.is("so it would have to be home", x.places(0), 1);
            x.see(-1, 0, 0);
            x.see(0, 9, 10);
            x.see(0, 8, 9);
            s.is("in whatever order they are told", x.places(0), 2);
        });
        s.holds("(5 rows at most)", () -> {
            TurnBack x = Houses.of("pay 0", 0, 0);
            for (int row = 1; row <= 5; row++) {
                s.is("row " + row, x.see(0, row, row), row);
            }
            s.is("a sixth", x.see(0, 6, 0), -4);
            s.is("does not count", x.can(0, 0, 0), 100);
            x.set(0, 1, 10);
            s.is("each of the five does", x.can(0, 0, 0), 0);
            x.see(-1, 0, 0);
            for (int row = 1; row <= 4; row++) {
                x.see(0, 0, 10);
            }
            x.see(0, 0, 9);
            s.is("the fifth does, too", x.can(0, 0, 0), 0);
        });
    }

    private static void worths(Sentences s) {
        s.holds("WORTHS of one: how many numbers (0 .. 99) there are by which, were that its WORTH now, all of SEEN is"
            + " so; the least (-5: none).", () -> {
            TurnBack x = Houses.of("pay 98", 4, 0, 0);
            s.is("nothing seen: how many", x.can(0, 0, 0), 100);
            s.is("nothing seen: the least", x.can(0, 0, 1), 0);
            x.see(0, 2, 6);
            s.is("99 alone goes on: how many", x.can(0, 0, 0), 1);
            s.is("99 alone goes on: the least", x.can(0, 0, 1), 99);
            x.see(0, 0, 3);
            s.is("none: how many", x.can(0, 0, 0), 0);
            s.is("none: the least", x.can(0, 0, 1), -5);
            x.see(-1, 0, 0);
            // It turns twice for 3 if its worth is 0 at first.
            Houses.season(x, "pay 3");
            x.see(0, 12, 4);
            s.is("0 alone turns twice: how many", x.can(0, 0, 0), 1);
            s.is("0 alone turns twice: the least", x.can(0, 0, 1), 0);
            x.see(-1, 0, 0);
            x.see(0, 2, 4);
            x.see(0, 12, 6);
            s.is("1, 2, 3 turn once: how many", x.can(0, 0, 0), 3);
            s.is("1, 2, 3 turn once: the least", x.can(0, 0, 1), 1);
        });
    }

    private static void can(Sentences s) {
        s.holds("CAN of one: how many numbers v (0 .. 9) likewise; the least (-5: none).", () -> {
            TurnBack x = new TurnBack();
            x.traveller(1, 4, 19, 4);
            s.is("nothing seen: how many", x.can(0, 1, 0), 10);
            s.is("nothing seen: the least", x.can(0, 1, 1), 0);
            x.see(0, 2, 4);
            s.is("9 alone turns: how many", x.can(0, 1, 0), 1);
            s.is("9 alone turns: the least", x.can(0, 1, 1), 9);
            x.set(0, 0, 20);
            s.is("none: how many", x.can(0, 1, 0), 0);
            s.is("none: the least", x.can(0, 1, 1), -5);
            x.see(-1, 0, 0);
            x.see(0, 2, 6);
            x.set(0, 0, 11);
            s.is("0 alone goes on: how many", x.can(0, 1, 0), 1);
            s.is("0 alone goes on: the least", x.can(0, 1, 1), 0);
        });
    }

    private static void places(Sentences s) {
        s.holds("PLACES of one: those PLACES, as bits, by which, were it there now, and not BACK, all of SEEN is so.",
            () -> {
            TurnBack x = Houses.of("pay 0", 3, 0);
            s.is("nothing seen: all eleven", x.places(0), 2047);
            x.see(0, 0, 0);
            s.is("home", x.places(0), 1);
            x.see(-1, 0, 0);
            x.see(0, 0, 10);
            s.is("the city", x.places(0), 1024);
            x.see(-1, 0, 0);
            x.see(0, 12, 10);
            s.is("from everywhere in 12 days", x.places(0), 2047);
            x.see(0, 9, 10);
            s.is("not from home in 9 days", x.places(0), 2046);
            x.see(-1, 0, 0);
            x.back(0, true);
            x.see(0, 1, 4);
            s.is("as if it were not back", x.places(0), 8);
            x.see(-1, 0, 0);
            x.see(0, 1, 2);
            s.is("as if it were not back, from behind", x.places(0), 2);
            x.see(0, 0, 9);
            s.is("none", x.places(0), 0);
            s.is("it is back still", x.of(0, 4), 1);
        });
    }

    /** The odds of one, as a fraction. */
    private static void odds(Sentences s, TurnBack x, int n, long above, long below) {
        s.is("odds of " + n + " days: above", x.odds(0, n, 0), above);
        s.is("odds of " + n + " days: below", x.odds(0, n, 1), below);
    }

    private static void odds(Sentences s) {
        s.holds("ODDS of one and n DAYS (0 .. 60)", () -> {
            TurnBack x = Houses.of(10, 0);
            odds(s, x, 0, 1, 1);
            odds(s, x, 60, 1, 1);
            x.set(0, 1, 9);
            odds(s, x, 0, 0, 1);
            odds(s, x, 1, 1, 1);
            // It turns for 14 on days 5, 15, 25, 35, 45, and not on day 55; for 15 on that, too.
            x.set(0, 1, 0);
            odds(s, x, 59, 4, 7);
            odds(s, x, 60, 5, 7);
            s.is("-1 days", x.odds(0, -1, 0), Long.MIN_VALUE);
            s.is("61 days", x.odds(0, 61, 0), Long.MIN_VALUE);
        });
        s.holds("if PAY is any of 0 .. 20 from now on, each alike likely: how likely it is in the city behind n: a"
            + " fraction in lowest terms.", () -> {
            TurnBack x = Houses.of("pay 99", 4, 0);
            odds(s, x, 6, 1, 21);
            int[][] due = {{1, 1, 21}, {2, 2, 21}, {3, 1, 7}, {6, 2, 7}, {7, 1, 3}, {14, 2, 3}, {19, 19, 21}, {20, 20, 21},
                {21, 1, 1}, {99, 1, 1}};
            for (int[] one : due) {
                x.set(0, 0, one[0]);
                odds(s, x, 6, one[1], one[2]);
            }
            odds(s, x, 5, 0, 1);
            Houses.season(x, "more 1 p=0");
            x.set(0, 0, 21);
            odds(s, x, 6, 20, 21);
        });
    }

    private static void mean(Sentences s) {
        s.holds("MEAN of n DAYS (0 .. 60): TURNED of all behind n, together, by how many they are: a fraction in lowest"
            + " terms (NO: there are none).", () -> {
            TurnBack x = new TurnBack();
            s.is("none: above", x.mean(0, 0), Long.MIN_VALUE);
            s.is("none: below", x.mean(0, 1), Long.MIN_VALUE);
            x = tenth();
            int[][] due = {{0, 0, 1}, {9, 0, 1}, {10, 1, 2}, {19, 1, 2}, {20, 1, 1}, {30, 3, 2}, {59, 5, 2}, {60, 3, 1}};
            for (int[] one : due) {
                s.is("above on " + one[0], x.mean(one[0], 0), one[1]);
                s.is("below on " + one[0], x.mean(one[0], 1), one[2]);
            }
            s.is("-1 days", x.mean(-1, 0), Long.MIN_VALUE);
            s.is("61 days", x.mean(61, 0), Long.MIN_VALUE);
            TurnBack six = Houses.of("pay 99", 0, 0, 0, 0, 0, 0, 0);
            six.purse(99999);
            long[][] by = {{1, 6}, {1, 3}, {1, 2}, {2, 3}, {5, 6}, {1, 1}};
            for (int t = 0; t < 6; t++) {
                six.set(t, 1, 4);
                s.is(t + 1 + " of six: above", six.mean(1, 0), by[t][0]);
                s.is(t + 1 + " of six: below", six.mean(1, 1), by[t][1]);
            }
            s.is("one alone: below", Houses.of(4, 0).mean(1, 1), 1);
        });
    }

    private static void plan(Sentences s) {
        s.holds("what goes (0 a DAY, 1 one is home, not BACK", () -> {
            TurnBack x = Houses.of("pay 10", 9, 0);
            s.is("no plan: the purse now", x.ends(0), 500);
            s.is("no plan: the city now", x.ends(1), 0);
            x.plan(0, 0);
            s.is("a day", x.ends(1), 1);
            x.plan(1, 0);
            s.is("home from the city", x.ends(1), 0);
            x.plan(-1, 0);
            x.back(0, true);
            x.plan(1, 0);
            for (int day = 1; day <= 5; day++) {
                s.is("home, and so many days on: " + (day - 1), x.ends(0), 500);
                x.plan(0, 0);
            }
            s.is("home, not back, and five days on", x.ends(0), 490);
        });
        s.holds("2 WORTH of one is 10 more (99 at most)", () -> {
            TurnBack x = Houses.of("pay 20", 4, 0);
            x.plan(2, 0);
            x.plan(0, 0);
            x.set(0, 0, 10);
            s.is("10, then 20", x.ends(0), 480);
            x.set(0, 0, 11);
            s.is("11, then 21", x.ends(0), 500);
            TurnBack most = Houses.of("pay 98", 4, 0);
            most.plan(2, 0);
            most.plan(0, 0);
            int[][] due = {{88, 402}, {89, 500}, {90, 500}, {99, 500}};
            for (int[] one : due) {
                most.set(0, 0, one[0]);
                s.is("98 for " + one[0] + " and 10", most.ends(0), one[1]);
            }
            Houses.season(most, "pay 99");
            for (int worth : new int[] {88, 89, 90, 98, 99}) {
                most.set(0, 0, worth);
                s.is("99 for " + worth + " and 10", most.ends(0), 401);
            }
        });
        s.holds("3 one is BACK, if it is not home and not in the city", () -> {
            for (int place = 0; place <= 10; place++) {
                TurnBack x = Houses.of("pay 10", place, 0);
                x.plan(3, 0);
                // Who went on, not back, is at the bar on the day told, and is paid then.
                int days = place < 5 ? 5 - place : 5 + place;
                for (int day = 1; day <= Math.min(days, 9); day++) {
                    x.plan(0, 0);
                }
                s.is("back from " + place + ", purse", x.ends(0), place == 0 ? 490 : 500);
                s.is("back from " + place + ", city", x.ends(1), place == 10 ? 1 : 0);
            }
            TurnBack home = Houses.of("pay 10", 1, 0);
            home.plan(3, 0);
            for (int day = 1; day <= 6; day++) {
                s.is("from 1, so many days on: " + (day - 1), home.ends(0), 500);
                home.plan(0, 0);
            }
            s.is("from 1, home in a day, at the bar in six", home.ends(0), 490);
        });
        s.holds("10 rows at most): ENDS: PURSE; which are in the city (bits).", () -> {
            TurnBack x = Houses.of("pay 0", 0, 0);
            for (int row = 1; row <= 10; row++) {
                s.is("not in the city yet", x.ends(1), 0);
                s.is("row " + row, x.plan(0, 0), row);
            }
            s.is("ten days: in the city", x.ends(1), 1);
            s.is("an eleventh", x.plan(1, 0), -4);
            s.is("is not in it", x.ends(1), 1);
            TurnBack last = Houses.of("pay 0", 1, 0);
            for (int row = 1; row <= 9; row++) {
                last.plan(0, 0);
            }
            last.plan(1, 0);
            s.is("the tenth is", last.ends(1), 0);
        });
    }

    private static void book(Sentences s) {
        s.holds("A BOOK told by hand: TRAVELLERS, PLACES (8 at most)", () -> {
            TurnBack x = Houses.of(3, 0);
            for (int row = 1; row <= 7; row++) {
                s.is("row " + row, x.book(0, 3), row);
            }
            s.is("row 8", x.book(0, 4), 8);
            s.is("a ninth", x.book(0, 5), -4);
            s.is("the eighth is otherwise", x.looked(), 7);
            x.set(0, 1, 4);
            s.is("the first is otherwise", x.looked(), 0);
        });
        s.holds("LOOKED at: the number (from 0) of the first of these rows by which it is otherwise now (-5: none).",
            () -> {
            TurnBack x = Houses.of(3, 0, 0);
            s.is("no book", x.looked(), -5);
            x.book(0, 3);
            s.is("as told", x.looked(), -5);
            x.book(1, 4);
            x.book(0, 9);
            s.is("the second", x.looked(), 1);
            x.set(1, 1, 4);
            s.is("the third", x.looked(), 2);
            x.set(0, 1, 9);
            s.is("the first", x.looked(), 0);
            x.book(-1, 0);
            s.is("no book any more", x.looked(), -5);
            x.book(0, 0);
            x.book(1, 10);
            x.set(0, 1, 0);
            x.set(1, 1, 10);
            s.is("home and the city", x.looked(), -5);
        });
    }

    /** Number i of kind i, with v i + 3; the third (number 2, v 5) of another kind if told so. */
    private static TurnBack kinds(int third) {
        TurnBack x = new TurnBack();
        for (int i = 0; i < 6; i++) {
            x.traveller(i == 2 ? third : i, i + 3, 0, 0);
        }
        return x;
    }

    private static void acts(Sentences s) {
        s.holds("ACTS of one with x (wrapping)", () -> {
            TurnBack x = kinds(2);
            s.is("10: number 1", x.act(1, 0, MAX), MIN);
            s.is("11: number 0, v 3", x.act(0, 1, MIN), MAX - 2);
            s.is("12: number 0, v 3", x.act(0, 2, 1 << 30), MAX - 5);
            s.is("20: number 1, v 4", x.act(1, 1, MIN), MAX - 4);
            s.is("30: number 2", x.act(2, 0, MAX), MAX);
            s.is("30: number 2, on", x.act(2, 0, 1 << 30), -(1 << 30) + 2);
            s.is("40: number 3, v 6", x.act(3, 2, 1 << 30), MAX - 7);
            s.is("50: number 4", x.act(4, 0, MIN - 4), MIN);
            s.is("51: number 4, v 7", x.act(4, 1, MAX), MAX - 12);
            s.is("60: number 5, v 8", x.act(5, 2, MIN), -36);
            TurnBack told = kinds(6);
            s.is("70: number 2, v 5", told.act(2, 1, MAX), MIN + 3);
            s.is("71: number 2, v 5", told.act(2, 0, MAX), MIN + 4);
        });
        s.holds("0 walks, 1 sighs, 2 tells; i its number.", () -> {
            TurnBack x = Houses.of(0, 0, 0, 0, 0, 0, 0);
            s.is("walks", x.act(5, 0, 7), 12);
            s.is("sighs", x.act(5, 1, 7), 12);
            s.is("tells", x.act(5, 2, 7), 24);
            s.is("number 0", x.act(0, 0, 7), 7);
            s.is("no act -1", x.act(5, -1, 7), 0);
            s.is("no act 3", x.act(5, 3, 7), 0);
        });
    }

    private static void runs(Sentences s, TurnBack x, int traveller, int act, long want, int... trace) {
        String call = "act(" + traveller + ", " + act + ", 10)";
        s.is(call, x.act(traveller, act, 10), want);
        s.is(call + ": bodies", x.count(6), trace.length);
        for (int i = 0; i < trace.length; i++) {
            s.is(call + ": body " + i, x.trace(i), trace[i]);
        }
        s.is(call + ": no more", x.trace(trace.length), -1);
    }

    private static void bodies(Sentences s) {
        s.holds("BODIES: TRAVELLER: 10 walks: x + i. 11 sighs: walks(x) - v. 12 tells: sighs(x) * 2. BRIDE: 20 sighs:"
            + " super.sighs(x) ^ 6. BEGGAR: 30 walks: super.walks(x * 3). POET: 40 tells: super.tells(x) + sighs(1)."
            + " SOLDIER: 50 walks: -super.walks(x). 51 sighs: super.sighs(x + 1). CHILD: 60 tells: super.tells(x - i)."
            + " TOLD: 70 sighs: super.sighs(x) + super.walks(2). 71 walks: super.walks(x) ^ v.", () -> {
            // Walks, sighs, tells of number i of kind i with v i + 3, for x 0; the last of number 2, v 5.
            int[][] due = {{0, -3, -6}, {1, -3 ^ 6, 2 * (-3 ^ 6)}, {2, -3, -6}, {3, -3, -8}, {-4, -12 ^ 6, 2 * (-12 ^ 6)},
                {5, -3, -36}, {2 ^ 5, (2 ^ 5) - 5 + 4, 2 * ((2 ^ 5) - 1) + (3 ^ 5) - 1}};
            for (int kind = 0; kind <= 6; kind++) {
                TurnBack x = kinds(kind == 6 ? 6 : 2);
                for (int act = 0; act <= 2; act++) {
                    s.is("kind " + kind + ", act " + act, x.act(kind == 6 ? 2 : kind, act, 0), due[kind][act]);
                }
            }
        });
        s.holds("walks(..) and so on: the body of its KIND, or, if that has none, of the next KIND above that has one;"
            + " super.walks(..): so from the KIND above the body's on; all that stands in a body is done from the left"
            + " on.", () -> {
            TurnBack x = kinds(2);
            runs(s, x, 0, 0, 10, 10);
            runs(s, x, 0, 1, 7, 11, 10);
            runs(s, x, 0, 2, 14, 12, 11, 10);
            runs(s, x, 1, 0, 11, 10);
            runs(s, x, 1, 1, 1, 20, 11, 10);
            runs(s, x, 1, 2, 2, 12, 20, 11, 10);
            runs(s, x, 2, 0, 32, 30, 10);
            runs(s, x, 2, 1, 27, 11, 30, 10);
            runs(s, x, 2, 2, 54, 12, 11, 30, 10);
            runs(s, x, 3, 0, 13, 10);
            runs(s, x, 3, 1, 7, 11, 10);
            runs(s, x, 3, 2, 12, 40, 12, 11, 10, 11, 10);
            runs(s, x, 4, 0, -14, 50, 10);
            runs(s, x, 4, 1, -20, 51, 20, 11, 50, 10);
            runs(s, x, 4, 2, -40, 12, 51, 20, 11, 50, 10);
            runs(s, x, 5, 0, 35, 30, 10);
            runs(s, x, 5, 1, 27, 11, 30, 10);
            runs(s, x, 5, 2, 24, 60, 12, 11, 30, 10);
            TurnBack told = kinds(6);
            runs(s, told, 2, 0, 9, 71, 10);
            runs(s, told, 2, 1, 8, 70, 11, 71, 10, 10);
            runs(s, told, 2, 2, 21, 40, 12, 70, 11, 71, 10, 10, 70, 11, 71, 10, 10);
        });
    }

    private static void trace(Sentences s) {
        s.holds("THE TRACE: the numbers of the bodies that ran in the latest act(), as they began", () -> {
            TurnBack x = kinds(2);
            s.is("no act yet", x.trace(0), -1);
            x.act(3, 2, 5);
            s.is("the first began first", x.trace(0), 40);
            x.act(0, 0, 5);
            s.is("the latest", x.trace(0), 10);
            s.is("alone", x.trace(1), -1);
        });
        s.holds("the first 20 are kept.", () -> {
            TurnBack x = kinds(6);
            x.act(2, 2, 10);
            s.is("the longest act has 12", x.count(6), 12);
            s.is("which are kept", x.trace(11), 10);
            for (int more = 13; more <= 25; more++) {
                Inside.walkOn(x);
                s.is("all that ran", x.count(6), more);
                s.is("the last of 20 kept", x.trace(more - 1), more <= 20 ? 10 : -1);
            }
            s.is("the first is still", x.trace(0), 40);
            s.is("the twentieth", x.trace(19), 10);
            s.is("no twenty-first", x.trace(20), -1);
        });
    }

    private static TurnBack kept() {
        TurnBack x = Busy.house();
        x.image();
        return x;
    }

    private static void image(Sentences s) {
        s.holds("THE IMAGE: TRAVELLERS with all that is theirs, PURSE, DAY, SEEN, the PLAN, the BOOK, which SEASON"
            + " holds.", () -> {
            TurnBack x = kept();
            x.traveller(6, 0, 0, 0);
            x.set(0, 0, 77);
            x.set(1, 1, 9);
            x.back(3, false);
            for (int part = 0; part < 4; part++) {
                x.row(0, part, 9);
                x.row(5, part, 9);
            }
            x.purse(7);
            x.pass(3);
            x.see(0, 12, 4);
            x.plan(1, 1);
            x.book(0, 1);
            s.is("the travellers it had", x.undo(), 5);
            s.same("all is as it was", x, kept());
            TurnBack none = kept();
            none.see(-1, 0, 0);
            none.see(0, 0, 0);
            none.plan(-1, 0);
            none.plan(1, 2);
            none.book(-1, 0);
            none.book(0, 0);
            none.undo();
            s.same("rows are as they were", none, kept());
            rowsAreKept(s);
            TurnBack seasons = Houses.of("pay 11;more 4 p=0", 0, 0);
            seasons.image();
            Houses.season(seasons, "pay 22");
            seasons.undo();
            s.is("the season that held: pay", seasons.told(1), 11);
            s.is("the season that held: clauses", seasons.of(0, 6), 15);
            TurnBack before = Houses.of(0, 0);
            before.image();
            Houses.season(before, "pay 22");
            before.undo();
            s.is("no season held", before.told(1), 10);
        });
    }

    private static long[] byRows(TurnBack x) {
        return new long[] {x.places(0), x.places(1), x.can(0, 0, 0), x.ends(0), x.ends(1), x.looked(), x.count(2), x.count(3),
            x.count(4)};
    }

    private static void rowsAreKept(Sentences s) {
        TurnBack x = Houses.of(4, 0, 0);
        x.set(1, 1, 8);
        x.see(1, 2, 10);
        x.see(0, 2, 4);
        x.plan(0, 0);
        x.plan(2, 0);
        x.plan(0, 0);
        x.book(1, 8);
        x.book(0, 4);
        x.book(0, 7);
        s.are("by the rows", byRows(x), 20, 1792, 11, 490, 2, 2, 2, 3, 3);
        x.image();
        x.see(-1, 0, 0);
        x.plan(-1, 0);
        x.book(-1, 0);
        for (int row = 0; row < 3; row++) {
            x.see(0, 1, 9);
            x.plan(1, 1);
            x.book(1, 3);
        }
        s.are("by others", byRows(x), 256, 0, 0, 500, 0, 0, 3, 3, 3);
        x.undo();
        s.are("by the rows again", byRows(x), 20, 1792, 11, 490, 2, 2, 2, 3, 3);
    }

    private static void whatIsNotInTheImage(Sentences s) {
        s.holds("PURSE, DAY, SEEN, the PLAN, the BOOK, which SEASON holds.", () -> {
            // What is not named there is not undone: tapes, the text, the trace, how many seasons there are.
            TurnBack x = Houses.of("pay 1", 2, 0);
            x.image();
            Houses.season(x, "pay 2");
            x.tape(0, 2, 1);
            x.item(0, 0, 77);
            x.act(0, 2, 1);
            x.feed('p');
            x.undo();
            s.is("the tape", x.read(0, 0), 77);
            s.is("the text", x.count(5), 1);
            s.is("the trace", x.trace(0), 12);
            s.is("two seasons", x.count(1), 2);
            s.is("of which the first holds", x.told(1), 1);
            s.is("the next one's number", Houses.season(x, "ay 3"), 2);
            s.is("it holds", x.told(1), 3);
        });
    }
}
