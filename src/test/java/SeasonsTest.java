import java.util.regex.Matcher;
import java.util.regex.Pattern;

/** Promises 8 to 10: the text, the seasons, what is told. */
public final class SeasonsTest {
    private static final Due due = new Due("SeasonsTest");

    public static void main(String[] args) {
        feed();
        season();
        faults();
        faultsByPattern();
        tests();
        operators();
        payOfASeason();
        told();
        due.end();
    }

    private static void feed() {
        TurnBack x = new TurnBack();
        due.is("-1", x.feed(-1), -2);
        due.is("128", x.feed(128), -2);
        due.is("0", x.feed(0), 1);
        due.is("127", x.feed(127), 2);
        for (int i = 3; i <= 100; i++) {
            due.is("sign " + i, x.feed('p'), i);
        }
        due.is("sign 101", x.feed('p'), -4);
        due.is("BAD ahead of FULL", x.feed(128), -2);
        due.is("count", x.count(5), 100);
        due.is("0 is a fault", x.season(), -10);
        due.is("empty then", x.count(5), 0);
        due.is("anew", x.feed('p'), 1);
    }

    private static void season() {
        TurnBack x = Houses.of(0, 0);
        due.is("the empty text", x.season(), -10);
        due.is("the first", Houses.season(x, "pay 7"), 0);
        due.is("it is empty then", x.count(5), 0);
        due.is("it holds", x.told(1), 7);
        due.is("a fault", Houses.season(x, "pay 8;"), -16);
        due.is("empty by a fault, too", x.count(5), 0);
        due.is("the one that held holds", x.told(1), 7);
        due.is("a fault is no season", x.count(1), 1);
        Houses.season(x, "less 3 p=0;pay 8;more");
        due.is("nothing of a fault holds", x.of(0, 6), 7);
        Houses.season(x, "less 3 p=0;more 4 p=0;more 5 p=0;more 6 p=0&");
        for (int i = 1; i < 6; i++) {
            due.is("season " + i, Houses.season(x, "pay " + (10 + i)), i);
            due.is("the newest holds", x.told(1), 10 + i);
            due.is("and nothing of a fault", x.of(0, 6), 10 + i);
        }
        due.is("full", Houses.season(x, "pay 9"), -4);
        due.is("the text stays", x.count(5), 5);
        due.is("FULL ahead of a fault", Houses.season(x, "???"), -4);
        due.is("the text stays so, too", x.count(5), 8);
        due.is("the newest still holds", x.told(1), 15);
        due.is("six", x.count(1), 6);
        // 100 bytes are a season, if they are one.
        TurnBack full = Houses.of(0, 0);
        String text = "more 1 p=0" + "&p=00".repeat(18);
        due.is("100 bytes", Houses.feed(full, text), 100);
        due.is("are a season", full.season(), 0);
        due.is("which holds", full.of(0, 6), 11);
        Houses.feed(full, "more 1 p=00" + "&p=0".repeat(22) + "|");
        due.is("100 bytes, too early", full.season(), -110);
    }

    private static void fault(String text, int place) {
        TurnBack x = new TurnBack();
        due.is("season of '" + text + "'", Houses.season(x, text), place < 0 ? 0 : -10 - place);
    }

    private static void faults() {
        fault("", 0);
        fault("P", 0);
        fault("more", 4);
        fault("more1", 4);
        fault("more  1", 5);
        fault("more 1", 6);
        fault("more 12", 7);
        fault("more 123", 7);
        fault("more 12p", 7);
        fault("more 12 ", 8);
        fault("more 12  p=1", 8);
        fault("more 12 p", 9);
        fault("more 12 p=", 10);
        fault("more 12 p1", 9);
        fault("more 12 p==", 10);
        fault("more 12 p=1", -1);
        fault("more 00 p=01", -1);
        fault("less 1 t>99", -1);
        fault("less 1 t>999", 11);
        fault("less 1 t>9 ", 10);
        fault("less 1 x>9", 7);
        fault("lesser", 4);
        fault("lore", 1);
        fault("pore", 1);
        fault("pay 0", -1);
        fault("pay 00", -1);
        fault("pay 000", 6);
        fault("pay -1", 4);
        fault("pay 1 ", 5);
        fault("pay 1;", 6);
        fault("pay 1;;", 6);
        fault("pay 1; pay 2", 6);
        fault(" pay 1", 0);
        fault("less 1 ()", 8);
        fault("less 1 (p=1", 11);
        fault("less 1 (p=1)", -1);
        fault("less 1 p=1)", 10);
        fault("less 1 (p=1;", 11);
        fault("less 1 p=1&", 11);
        fault("less 1 p=1&&", 11);
        fault("less 1 p=1|&", 11);
        fault("less 1 p=1!", 10);
        fault("less 1 !", 8);
        fault("less 1 !p=1&!p=1|!(p=1)", -1);
        // Four within one another, and no fifth; beside one another they are no deeper.
        fault("less 1 ((((p=1))))", -1);
        fault("less 1 (((((p=1)))))", 11);
        fault("less 1 !!!!p=1", -1);
        fault("less 1 !!!!!p=1", 11);
        fault("less 1 !!!!(p=1)", 11);
        fault("less 1 ((((!p=1))))", 11);
        fault("less 1 !(!(p=1&!p=2))", 15);
        fault("less 1 !(!(p=1&v=2))&!(!(p=1|v=2))", -1);
        fault("less 1 !p=1&!p=2&!p=3&!p=4&!p=5&((((w=1))))", -1);
        fault("less 1 (((!p=1&!p=2)&!p=3)&!p=4)", -1);
        // Ten clauses, and no eleventh.
        fault("pay 1;pay 2;pay 3;pay 4;pay 5;pay 6;pay 7;pay 8;pay 9;pay 10", -1);
        fault("pay 1;pay 2;pay 3;pay 4;pay 5;pay 6;pay 7;pay 8;pay 9;pay 10;", 60);
        fault("pay 1;pay 2;pay 3;pay 4;pay 5;pay 6;pay 7;pay 8;pay 9;less 1 p=1;pay 1", 64);
    }

    private static final Pattern SEASON = Pattern.compile(seasonPattern());

    private static String seasonPattern() {
        String number = "[0-9]{1,2}";
        String test = "[pkvwtd][<=>]" + number;
        String factor = test;
        for (int depth = 0; depth < 4; depth++) {
            factor = "(?:" + test + "|!" + factor + "|\\(" + factor + "(?:[&|]" + factor + ")*\\))";
        }
        String clause = "(?:(?:more|less) " + number + " " + factor + "(?:[&|]" + factor + ")*|pay " + number + ")";
        return clause + "(?:;" + clause + "){0,9}";
    }

    /** The fault by the document's own words: the first byte with which no season begins so. */
    static int faultOf(String text) {
        for (int end = 1; end <= text.length(); end++) {
            Matcher matcher = SEASON.matcher(text.substring(0, end));
            if (!matcher.matches() && !matcher.hitEnd()) {
                return end - 1;
            }
        }
        return SEASON.matcher(text).matches() ? -1 : text.length();
    }

    private static void faultsByPattern() {
        Dice dice = new Dice(7);
        int good = 0;
        for (int i = 0; i < 6000; i++) {
            String text = Texts.maybeFaulty(dice);
            int fault = faultOf(text);
            good += fault < 0 ? 1 : 0;
            fault(text, fault);
        }
        due.holds("many are good", good > 1000);
        due.holds("many are not", good < 5000);
    }

    /** Whether an expression holds, for a traveller 1 of kind 2, v 7, worth 58, turned 0, on day 3. */
    private static void holds(String expression, boolean so) {
        TurnBack x = Houses.of(0, 0);
        x.traveller(2, 7, 58, 0);
        x.pass(3);
        Houses.season(x, "pay 0;more 20 " + expression);
        due.is(expression, x.of(1, 6), so ? 10 : 0);
    }

    private static void tests() {
        holds("p=1", true);
        holds("p=01", true);
        holds("p<1", false);
        holds("p>1", false);
        holds("p<2", true);
        holds("p>0", true);
        holds("k=2", true);
        holds("k<2", false);
        holds("v=7", true);
        holds("v>7", false);
        holds("w=5", true);
        holds("w=6", false);
        holds("w<58", true);
        holds("t=0", true);
        holds("t>0", false);
        holds("d=3", true);
        holds("d<12", true);
        holds("d>12", false);
        TurnBack x = Houses.of("pay 99;more 1 d=0;more 2 t=2;more 4 t=0;more 8 w>8", 0, 0);
        x.purse(99999);
        due.is("day 0, turned 0", x.of(0, 6), 104);
        x.pass(10);
        due.is("day 10, turned 1", x.of(0, 6), 100);
        x.pass(10);
        due.is("day 20, turned 2", x.of(0, 6), 102);
        x.pass(41);
        due.is("day 61", x.of(0, 6), 99);
        for (int i = 0; i < 4; i++) {
            x.pass(10);
        }
        due.is("day 101, turned 10", x.of(0, 5), 10);
        due.is("day 101, turned 10", x.of(0, 6), 103);
        x.set(0, 0, 90);
        due.is("worth 90", x.of(0, 6), 111);
        x.set(0, 0, 89);
        due.is("worth 89", x.of(0, 6), 103);
    }

    private static void operators() {
        holds("p=1&k=2", true);
        holds("p=1&k=3", false);
        holds("p=0&k=2", false);
        holds("p=1|k=3", true);
        holds("p=0|k=2", true);
        holds("p=0|k=3", false);
        holds("p=1|k=3&v=0", true);
        holds("v=0&k=3|p=1", true);
        holds("(p=1|k=3)&v=0", false);
        holds("v=0&(k=3|p=1)", false);
        holds("!p=1", false);
        holds("!p=0", true);
        holds("!p=1&v=0", false);
        holds("!p=0&v=7", true);
        holds("!(p=1&v=0)", true);
        holds("!p=1|v=7", true);
        holds("!(p=1|v=0)", false);
        holds("!!p=1", true);
        holds("!!!p=1", false);
        holds("p=0|p=0&p=1|p=1&p=1", true);
        holds("p=1&p=1&p=1&p=0", false);
        holds("p=0|p=0|p=0|p=1", true);
        holds("p=0|(p=1&(p=0|(p=1&(p=1|p=0))))", true);
        holds("p=1&(p=0|(p=1&(p=0|(p=1&p=0))))", false);
        holds("((((p=1))))", true);
        holds("!(!(p=1))", true);
        holds("!(p=1&!(v=7))", true);
    }

    private static void payOfASeason() {
        TurnBack x = Houses.of(0, 0);
        Houses.season(x, "pay 3;more 5 p=0;pay 44");
        due.is("the last one's", x.told(1), 44);
        due.is("and the sum", x.of(0, 6), 49);
        Houses.season(x, "more 99 p<6");
        due.is("without", x.told(1), 10);
        Houses.season(x, "pay 0");
        due.is("pay 0", x.told(1), 0);
        Houses.season(x, "less 9 p=0;less 90 p=0;more 1 p=1");
        due.is("below 0", x.of(0, 6), -89);
    }

    private static void told() {
        TurnBack x = Houses.of(0, 0, 0, 0, 0);
        x.set(0, 1, 10);
        x.set(1, 1, 5);
        x.set(2, 1, 5);
        x.back(2, true);
        x.set(3, 1, 3);
        x.back(3, true);
        x.pass(0);
        due.is("day", x.told(0), 0);
        due.is("city", x.told(3), 1);
        due.is("back", x.told(4), 12);
        due.is("bar", x.told(5), 6);
        x.pass(1);
        due.is("day", x.told(0), 1);
        due.is("city", x.told(3), 1);
        due.is("back", x.told(4), 12);
        due.is("bar", x.told(5), 0);
        due.is("purse", x.told(2), 500);
        due.is("nothing -1", x.told(-1), -1);
        due.is("nothing 6", x.told(6), -1);
        TurnBack six = Houses.of(4, 0, 0, 0, 0, 0, 0);
        six.set(5, 1, 9);
        six.pass(1);
        due.is("city of six", six.told(3), 32);
        due.is("back of six", six.told(4), 31);
        due.is("bar of six", six.told(5), 31);
    }
}
