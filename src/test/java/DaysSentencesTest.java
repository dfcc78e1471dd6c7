import java.util.function.Supplier;

/** The sentences of promises 11 to 18 that name a boundary: days, paying, what is seen, odds, the mean. */
public final class DaysSentencesTest {
    private static final int MAX = Integer.MAX_VALUE, MIN = Integer.MIN_VALUE;
    private static final long NO = Long.MIN_VALUE;

    public static void main(String[] args) {
        Sentences s = new Sentences("DaysSentencesTest");
        all(s);
        s.end();
    }

    static void all(Sentences s) {
        pass(s);
        on(s);
        pays(s);
        see(s);
        seeRefused(s);
        can(s);
        places(s);
        odds(s);
        mean(s);
    }

    private static TurnBack onDay(int day) {
        TurnBack x = Houses.of(10, 6);
        Houses.pass(x, day);
        return x;
    }

    private static void pass(Sentences s) {
        s.in("Promise 11");
        s.holds("n DAYS (0 .. 60) go: DAY.", () -> {
            TurnBack x = Houses.of("pay 0", 0, 0);
            s.is("0 days", x.pass(0), 0);
            s.is("nobody went", x.of(0, 3), 0);
            s.is("1 day", x.pass(1), 1);
            s.is("one went", x.of(0, 3), 1);
            s.is("60 days", x.pass(60), 61);
            s.is("told", x.told(0), 61);
            TurnBack y = Houses.of("pay 0", 0, 0);
            s.is("9 days", y.pass(9), 9);
            s.is("to place 9", y.of(0, 3), 9);
        });
        s.holds("BAD", () -> {
            for (int n : new int[] {-1, 61, MIN, MAX}) {
                s.refuses(-2, n + " days", x -> x.pass(n));
            }
        });
        s.holds("STATE: it would be above 9999.", () -> {
            s.is("to 9999", onDay(9939).pass(60), 9999);
            s.is("1 day to 9999", onDay(9998).pass(1), 9999);
            s.is("no day at 9999", onDay(9999).pass(0), 9999);
            s.refuses(() -> onDay(9940), -3, "60 days to 10000", x -> x.pass(60));
            s.refuses(() -> onDay(9998), -3, "2 days to 10000", x -> x.pass(2));
            s.refuses(() -> onDay(9999), -3, "1 day to 10000", x -> x.pass(1));
            s.refuses(() -> onDay(9999), -3, "60 days to 10059", x -> x.pass(60));
        });
        s.holds("BAD; STATE: it would be above 9999.", () -> {
            s.refuses(() -> onDay(9999), -2, "61 days", x -> x.pass(61));
            s.refuses(() -> onDay(9999), -2, "-1 days", x -> x.pass(-1));
        });
    }

    private static void on(Sentences s) {
        s.in("Promise 12");
        s.holds("what 0 PURSE, 1 which are in the city (bits), 10 and p PLACE, 20 and p TURNED of TRAVELLER p.", () -> {
            TurnBack x = new TurnBack();
            for (int t = 0; t < 6; t++) {
                x.traveller(0, 0, 0, t + 4);
            }
            s.is("purse", x.on(0, 0), 500);
            s.is("city", x.on(0, 1), 0);
            s.is("purse after a day", x.on(1, 0), 490);
            s.is("city after a day", x.on(1, 1), 32);
            s.is("city after five days", x.on(5, 1), 62);
            for (int t = 0; t < 6; t++) {
                s.is("place of " + t, x.on(0, 10 + t), t + 4);
                s.is("place of " + t + " after a day", x.on(1, 10 + t), t + 5);
                s.is("turned of " + t, x.on(0, 20 + t), 0);
                s.is("turned of " + t + " after a day", x.on(1, 20 + t), t == 0 ? 1 : 0);
            }
        });
        s.holds("NONE", () -> {
            for (int what : new int[] {-1, 2, 9, 15, 19, 25, 26, 30, MIN, MAX, MIN + 10, MIN + 20}) {
                s.refuses(-1, "what " + what, x -> x.on(1, what));
            }
            Supplier<TurnBack> six = () -> Houses.of(0, 0, 1, 2, 3, 4, 5);
            s.refuses(six, -1, "place of number 6", x -> x.on(1, 16));
            s.refuses(six, -1, "turned of number 6", x -> x.on(1, 26));
            s.refuses(TurnBack::new, -1, "place of nobody", x -> x.on(1, 10));
            s.refuses(TurnBack::new, -1, "turned of nobody", x -> x.on(1, 20));
        });
        s.holds("BAD: n.", () -> {
            for (int n : new int[] {-1, 61, MIN, MAX}) {
                for (int what : new int[] {0, 1, 10, 24}) {
                    s.refuses(-2, n + " days, what " + what, x -> x.on(n, what));
                }
            }
            s.is("60 days of nobody", new TurnBack().on(60, 0), 500);
        });
        s.holds("NONE; BAD: n.", () -> {
            s.refuses(-1, "what 2, 61 days", x -> x.on(61, 2));
            s.refuses(-1, "what 15, -1 days", x -> x.on(-1, 15));
        });
    }

    private static void pays(Sentences s) {
        s.in("Promise 13");
        s.holds("What 0 CHEAP: the least PAY, 1 how many, 2 RICH (-5), 3 BAG (bits; -5).", () -> {
            TurnBack x = new TurnBack();
            x.traveller(0, 0, 12, 4);
            x.traveller(0, 0, 99, 4);
            x.purse(40);
            s.is("cheap", x.pays(6, 0), 12);
            s.is("how many", x.pays(6, 1), 1);
            s.is("rich", x.pays(6, 2), 49);
            s.is("bag", x.pays(6, 3), 3);
            x.purse(0);
            s.is("cheap: none helps", x.pays(6, 0), 0);
            s.is("how many: both", x.pays(6, 1), 2);
            s.is("rich: none", x.pays(6, 2), -5);
            s.is("bag: none", x.pays(6, 3), -5);
            TurnBack nobody = new TurnBack();
            s.is("nobody: cheap", nobody.pays(1, 0), 0);
            s.is("nobody: how many", nobody.pays(1, 1), 0);
            s.is("nobody: rich", nobody.pays(1, 2), 49);
            s.is("nobody: bag", nobody.pays(1, 3), 0);
        });
        s.holds("NONE: what", () -> {
            for (int what : new int[] {-1, 4, MIN, MAX}) {
                s.refuses(-1, "what " + what, x -> x.pays(1, what));
            }
        });
        s.holds("BAD: n.", () -> {
            for (int n : new int[] {-1, 0, 21, MIN, MAX}) {
                for (int what = 0; what <= 3; what++) {
                    int asked = what;
                    s.refuses(-2, n + " days, what " + what, x -> x.pays(n, asked));
                }
            }
            for (int what = 0; what <= 3; what++) {
                s.is("1 day, what " + what, Houses.of(0, 0).pays(1, what), what == 2 ? 49 : 0);
                s.is("20 days, what " + what, Houses.of("pay 9", 5, 0).pays(20, what), new int[] {0, 1, 49, -5}[what]);
            }
        });
        s.holds("NONE: what; BAD: n.", () -> {
            s.refuses(-1, "what 4, 0 days", x -> x.pays(0, 4));
            s.refuses(-1, "what -1, 21 days", x -> x.pays(21, -1));
        });
    }

    private static void see(Sentences s) {
        s.in("Promise 14");
        s.holds("What is SEEN comes: how many there are", () -> {
            TurnBack x = Houses.of(0, 0, 0, 0, 0, 0, 0);
            s.is("the least", x.see(0, 0, 0), 1);
            s.is("the greatest", x.see(5, 12, 10), 2);
            s.is("the same again", x.see(5, 12, 10), 3);
            s.is("against it", x.see(5, 12, 9), 4);
            s.is("the fifth", x.see(5, 0, 10), 5);
            s.is("count", x.count(2), 5);
        });
        s.holds("(traveller -1: none then, 0, whatever the rest is)", () -> {
            int[][] rest = {{0, 0}, {13, 11}, {-1, -1}, {MIN, MAX}, {MAX, MIN}};
            for (int[] one : rest) {
                TurnBack x = Busy.house();
                s.is("with " + one[0] + ", " + one[1], x.see(-1, one[0], one[1]), 0);
                s.is("none", x.count(2), 0);
                s.is("all is so", x.can(0, 0, 0), 100);
                s.is("the next", x.see(0, 1, 1), 1);
            }
            s.is("of none", new TurnBack().see(-1, 0, 0), 0);
            TurnBack full = Houses.of(0, 0);
            for (int i = 0; i < 5; i++) {
                full.see(0, 0, 1);
            }
            s.is("of five", full.see(-1, 0, 0), 0);
        });
    }

    private static void seeRefused(Sentences s) {
        Supplier<TurnBack> full = () -> {
            TurnBack x = Busy.house();
            for (int i = x.count(2); i < 5; i++) {
                x.see(0, i, 0);
            }
            return x;
        };
        s.holds("NONE: traveller, place", () -> {
            for (int traveller : new int[] {-2, 5, 6, MIN, MAX}) {
                s.refuses(-1, "traveller " + traveller, x -> x.see(traveller, 0, 0));
            }
            for (int place : new int[] {-1, 11, MIN, MAX}) {
                s.refuses(-1, "place " + place, x -> x.see(0, 0, place));
            }
            s.is("nobody", new TurnBack().see(0, 0, 0), -1);
        });
        s.holds("BAD: n", () -> {
            for (int n : new int[] {-1, 13, MIN, MAX}) {
                s.refuses(-2, n + " days", x -> x.see(0, n, 0));
            }
        });
        s.holds("FULL: 5.", () -> s.refuses(full, -4, "a sixth", x -> x.see(0, 0, 0)));
        s.holds("NONE: traveller, place; BAD: n; FULL: 5.", () -> {
            s.refuses(full, -1, "traveller, n, full", x -> x.see(5, 13, 0));
            s.refuses(full, -1, "place, n, full", x -> x.see(0, 13, 11));
            s.refuses(full, -1, "traveller, full", x -> x.see(-2, 0, 0));
            s.refuses(full, -1, "place, full", x -> x.see(0, 0, -1));
            s.refuses(full, -2, "n, full", x -> x.see(0, -1, 0));
        });
    }

    private static void can(Sentences s) {
        s.in("Promise 15");
        s.holds("Of a TRAVELLER which 0 WORTHS, 1 CAN: what 0 how many, 1 the least; -5.", () -> {
            TurnBack x = new TurnBack();
            x.traveller(1, 2, 9, 4);
            s.are("nothing seen", asked(x, 0), 100, 0, 10, 0);
            x.see(0, 2, 4);
            s.are("it turns", asked(x, 0), 13, 0, 10, 0);
            x.set(0, 0, 17);
            s.are("it turns for 17", asked(x, 0), 13, 0, 3, 7);
            x.see(0, 0, 9);
            s.are("none", asked(x, 0), 0, -5, 0, -5);
            s.is("its worth is as it was", x.of(0, 2), 17);
            s.is("its v is as it was", x.of(0, 1), 2);
        });
        s.holds("NONE.", () -> {
            for (int traveller : new int[] {-1, 5, 6, MIN, MAX}) {
                s.refuses(-1, "traveller " + traveller, x -> x.can(traveller, 0, 0));
            }
            for (int which : new int[] {-1, 2, MIN, MAX}) {
                s.refuses(-1, "which " + which, x -> x.can(0, which, 0));
            }
            for (int what : new int[] {-1, 2, MIN, MAX}) {
                s.refuses(-1, "what " + what, x -> x.can(0, 0, what));
            }
            s.is("nobody", new TurnBack().can(0, 0, 0), -1);
        });
    }

    private static long[] asked(TurnBack x, int traveller) {
        return new long[] {x.can(traveller, 0, 0), x.can(traveller, 0, 1), x.can(traveller, 1, 0), x.can(traveller, 1, 1)};
    }

    private static void places(Sentences s) {
        s.in("Promise 16");
        s.holds("PLACES (bits).", () -> {
            TurnBack x = Houses.of("pay 0", 0, 0, 0);
            s.is("nothing seen", x.places(1), 2047);
            for (int place = 0; place <= 10; place++) {
                x.see(-1, 0, 0);
                x.see(1, 0, place);
                s.is("at " + place, x.places(1), 1L << place);
                s.is("of the other", x.places(0), place == 0 ? 2047 : 0);
            }
        });
        s.holds("NONE.", () -> {
            for (int traveller : new int[] {-1, 5, 6, MIN, MAX}) {
                s.refuses(-1, "traveller " + traveller, x -> x.places(traveller));
            }
            s.is("nobody", new TurnBack().places(0), -1);
        });
    }

    private static void odds(Sentences s) {
        s.in("Promise 17");
        s.holds("part 0 above, 1 below the line.", () -> {
            TurnBack x = Houses.of(4, 0);
            x.set(0, 0, 8);
            s.is("above", x.odds(0, 6, 0), 8);
            s.is("below", x.odds(0, 6, 1), 21);
            s.is("0 days: above", x.odds(0, 0, 0), 0);
            s.is("0 days: below", x.odds(0, 0, 1), 1);
            s.is("60 days: above", x.odds(0, 60, 0), 1);
            s.is("60 days: below", x.odds(0, 60, 1), 1);
        });
        s.holds("NO: traveller, n, part.", () -> {
            for (int traveller : new int[] {-1, 5, 6, MIN, MAX}) {
                s.refuses(NO, "traveller " + traveller, x -> x.odds(traveller, 6, 0));
            }
            for (int n : new int[] {-1, 61, MIN, MAX}) {
                s.refuses(NO, n + " days", x -> x.odds(0, n, 0));
            }
            for (int part : new int[] {-1, 2, MIN, MAX}) {
                s.refuses(NO, "part " + part, x -> x.odds(0, 6, part));
            }
            s.is("nobody", new TurnBack().odds(0, 0, 0), NO);
        });
    }

    private static void mean(Sentences s) {
        s.in("Promise 18");
        s.holds("part likewise.", () -> {
            TurnBack x = Houses.of(4, 0, 0, 0);
            x.set(2, 1, 5);
            s.is("above", x.mean(1, 0), 2);
            s.is("below", x.mean(1, 1), 3);
            s.is("0 days: above", x.mean(0, 0), 0);
            s.is("0 days: below", x.mean(0, 1), 1);
            s.is("60 days: above", x.mean(60, 0), 8);
            s.is("60 days: below", x.mean(60, 1), 3);
        });
        s.holds("NO.", () -> {
            for (int n : new int[] {-1, 61, MIN, MAX}) {
                s.refuses(NO, n + " days", x -> x.mean(n, 0));
            }
            for (int part : new int[] {-1, 2, MIN, MAX}) {
                s.refuses(NO, "part " + part, x -> x.mean(6, part));
            }
            s.refuses(TurnBack::new, NO, "nobody: above", x -> x.mean(0, 0));
            s.refuses(TurnBack::new, NO, "nobody: below", x -> x.mean(60, 1));
        });
    }
}
