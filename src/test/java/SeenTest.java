/** Promises 14 to 18: what is seen, worths, numbers and places by which it comes true, odds, mean. */
public final class SeenTest {
    private static final long NO = Long.MIN_VALUE;
    private static final Due due = new Due("SeenTest");

    public static void main(String[] args) {
        see();
        canWorths();
        canNumbers();
        canAll();
        places();
        odds();
        mean();
        due.end();
    }

    private static void see() {
        TurnBack x = Houses.of(0, 0, 0);
        due.is("first", x.see(0, 0, 0), 1);
        due.is("second", x.see(1, 12, 10), 2);
        due.is("nobody -2", x.see(-2, 0, 0), -1);
        due.is("nobody 2", x.see(2, 0, 0), -1);
        due.is("place -1", x.see(0, 0, -1), -1);
        due.is("place 11", x.see(0, 0, 11), -1);
        due.is("days -1", x.see(0, -1, 0), -2);
        due.is("days 13", x.see(0, 13, 0), -2);
        due.is("NONE ahead of BAD", x.see(0, 13, 11), -1);
        due.is("third", x.see(0, 0, 0), 3);
        due.is("fourth", x.see(0, 0, 0), 4);
        due.is("fifth", x.see(0, 0, 0), 5);
        due.is("full", x.see(0, 0, 0), -4);
        due.is("NONE ahead of FULL", x.see(2, 0, 0), -1);
        due.is("BAD ahead of FULL", x.see(0, 13, 0), -2);
        due.is("five", x.count(2), 5);
        due.is("none then", x.see(-1, 99, -99), 0);
        due.is("none", x.count(2), 0);
        due.is("first again", x.see(1, 1, 1), 1);
    }

    private static void canWorths() {
        TurnBack x = Houses.of(4, 0, 0);
        due.is("nothing seen: all", x.can(0, 0, 0), 100);
        due.is("nothing seen: least", x.can(0, 0, 1), 0);
        x.see(0, 2, 4);
        due.is("it turns", x.can(0, 0, 0), 11);
        due.is("it turns: least", x.can(0, 0, 1), 0);
        x.see(-1, 0, 0);
        x.see(0, 2, 6);
        due.is("it goes on", x.can(0, 0, 0), 89);
        due.is("it goes on: least", x.can(0, 0, 1), 11);
        x.see(0, 2, 4);
        due.is("both can't be", x.can(0, 0, 0), 0);
        due.is("none: least", x.can(0, 0, 1), -5);
        x.see(-1, 0, 0);
        x.see(0, 12, 6);
        due.is("12 days on", x.can(0, 0, 0), 3);
        due.is("turns once, then goes on", x.can(0, 0, 1), 8);
        x.see(-1, 0, 0);
        x.see(0, 0, 5);
        due.is("not so now", x.can(0, 0, 1), -5);
        x.see(-1, 0, 0);
        // The second is only paid if the first is not.
        x.purse(19);
        x.see(1, 2, 4);
        due.is("of the first, by the second", x.can(0, 0, 1), 11);
        due.is("of the second", x.can(1, 0, 1), -5);
        due.is("changes nothing", x.of(0, 2), 0);
        due.is("nobody -1", x.can(-1, 0, 0), -1);
        due.is("nobody 2", x.can(2, 0, 0), -1);
        due.is("which -1", x.can(0, -1, 0), -1);
        due.is("which 2", x.can(0, 2, 0), -1);
        due.is("what -1", x.can(0, 0, -1), -1);
        due.is("what 2", x.can(0, 0, 2), -1);
    }

    private static void canNumbers() {
        TurnBack x = new TurnBack();
        x.traveller(1, 0, 15, 4);
        x.traveller(0, 3, 15, 4);
        due.is("nothing seen: all", x.can(0, 1, 0), 10);
        due.is("nothing seen: least", x.can(0, 1, 1), 0);
        x.see(0, 2, 4);
        due.is("a bride's", x.can(0, 1, 0), 5);
        due.is("a bride's: least", x.can(0, 1, 1), 5);
        due.is("not by the other's", x.can(1, 1, 0), 0);
        due.is("not by the other's: least", x.can(1, 1, 1), -5);
        due.is("changes nothing", x.of(0, 1), 0);
        x.see(-1, 0, 0);
        Houses.season(x, "pay 10;more 5 v>7&p=1|v=0&p=1");
        x.see(1, 2, 4);
        due.is("by a season", x.can(1, 1, 0), 3);
        due.is("by a season: least", x.can(1, 1, 1), 0);
        x.see(-1, 0, 0);
        x.see(1, 1, 5);
        due.is("9 is the greatest", x.can(1, 1, 0), 10);
    }

    private static void canAll() {
        TurnBack x = new TurnBack();
        x.traveller(0, 0, 3, 0);
        x.traveller(0, 0, 4, 3);
        x.see(0, 12, 2);
        x.see(1, 12, 10);
        x.see(1, 3, 4);
        due.is("one of three is not so", x.can(0, 0, 0), 0);
        x.see(-1, 0, 0);
        x.see(0, 12, 2);
        x.see(0, 5, 5);
        x.see(0, 6, 4);
        x.see(1, 3, 4);
        x.see(1, 12, 5);
        due.is("five are so", x.can(0, 0, 0), 11);
        due.is("five are so by the other", x.can(1, 0, 0), 11);
        // What is seen is told from now on, whenever now is.
        TurnBack later = Houses.of(0, 0);
        later.see(0, 2, 4);
        due.is("too early", later.can(0, 0, 0), 0);
        later.pass(2);
        due.is("two days later", later.can(0, 0, 0), 100);
    }

    private static void places() {
        TurnBack x = Houses.of(0, 0, 0);
        due.is("nothing seen", x.places(0), 2047);
        x.see(0, 2, 4);
        due.is("from 2, or from 4", x.places(0), 20);
        x.set(0, 0, 11);
        due.is("from 2", x.places(0), 4);
        due.is("not by the other's", x.places(1), 0);
        x.set(1, 1, 7);
        x.set(0, 1, 2);
        due.is("by the other's all", x.places(1), 2047);
        x.see(-1, 0, 0);
        x.see(1, 1, 10);
        due.is("to the city, or there", x.places(1), 1536);
        x.see(-1, 0, 0);
        x.see(1, 0, 0);
        due.is("home", x.places(1), 1);
        x.see(-1, 0, 0);
        x.set(1, 1, 7);
        x.back(1, true);
        x.see(1, 1, 8);
        due.is("not back", x.places(1), 128);
        due.is("changes nothing: back", x.of(1, 4), 1);
        due.is("changes nothing: place", x.of(1, 3), 7);
        due.is("nobody -1", x.places(-1), -1);
        due.is("nobody 2", x.places(2), -1);
    }

    private static void is(TurnBack x, int traveller, int n, long above, long below) {
        due.is("odds: above", x.odds(traveller, n, 0), above);
        due.is("odds: below", x.odds(traveller, n, 1), below);
    }

    private static void odds() {
        TurnBack x = new TurnBack();
        x.traveller(0, 0, 7, 4);
        x.traveller(0, 0, 0, 10);
        is(x, 0, 6, 1, 3);
        is(x, 0, 5, 0, 1);
        is(x, 0, 0, 0, 1);
        is(x, 1, 0, 1, 1);
        is(x, 1, 60, 1, 1);
        is(x, 0, 60, 1, 1);
        is(x, 0, 55, 19, 21);
        x.set(0, 0, 20);
        is(x, 0, 6, 20, 21);
        x.set(0, 0, 21);
        is(x, 0, 6, 1, 1);
        Houses.season(x, "pay 0;more 7 p=0");
        is(x, 0, 6, 2, 3);
        for (int part : new int[] {-1, 2, Integer.MAX_VALUE}) {
            due.is("part " + part, x.odds(0, 6, part), NO);
        }
        due.is("nobody -1", x.odds(-1, 6, 0), NO);
        due.is("nobody 2", x.odds(2, 6, 0), NO);
        due.is("-1 days", x.odds(0, -1, 0), NO);
        due.is("61 days", x.odds(0, 61, 0), NO);
        due.is("changes nothing: pay", x.told(1), 0);
    }

    private static void mean() {
        TurnBack x = new TurnBack();
        due.is("nobody", x.mean(0, 0), NO);
        due.is("nobody below", x.mean(0, 1), NO);
        x.traveller(0, 0, 0, 4);
        due.is("0 of one", x.mean(0, 0), 0);
        due.is("by 1", x.mean(0, 1), 1);
        x.traveller(0, 0, 0, 4);
        x.traveller(0, 0, 99, 4);
        due.is("2", x.mean(1, 0), 2);
        due.is("by 3", x.mean(1, 1), 3);
        due.is("4", x.mean(11, 0), 4);
        x.traveller(0, 0, 99, 4);
        due.is("1", x.mean(1, 0), 1);
        due.is("by 2", x.mean(1, 1), 2);
        due.is("0 now", x.mean(0, 0), 0);
        due.is("by 1 now", x.mean(0, 1), 1);
        due.is("2 again", x.mean(60, 0), 2);
        due.is("by 1 again", x.mean(60, 1), 1);
        due.is("-1 days", x.mean(-1, 0), NO);
        due.is("61 days", x.mean(61, 0), NO);
        due.is("part -1", x.mean(1, -1), NO);
        due.is("part 2", x.mean(1, 2), NO);
        due.is("changes nothing", x.of(0, 5), 0);
        TurnBack six = Houses.of(4, 0, 0, 0, 0, 0, 0);
        six.set(0, 1, 3);
        six.set(1, 1, 3);
        due.is("2 of 3: 4 of 6", six.mean(1, 0), 2);
        due.is("by 3: 6", six.mean(1, 1), 3);
        due.is("1 of 1: 6 of 6", six.mean(2, 0), 1);
        due.is("by 1: 6", six.mean(2, 1), 1);
    }
}
