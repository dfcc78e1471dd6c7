import java.util.function.Supplier;

/** The sentences of the Terms, ==== 1, that name a boundary: travellers, seasons, offers, how a day goes. */
public final class Terms1SentencesTest {
    public static void main(String[] args) {
        Sentences s = new Sentences("Terms1SentencesTest");
        all(s);
        s.end();
    }

    static void all(Sentences s) {
        s.in("Terms 1");
        travellers(s);
        whereTheyAre(s);
        theHouse(s);
        theText(s);
        clauses(s);
        parts(s);
        expressions(s);
        tests(s);
        values(s);
        valuesThatAreCut(s);
        within(s);
        faults(s);
        theNewest(s);
        sums(s);
        offers(s);
        offersByOthersAndDays(s);
        days(s);
        whoTurns(s);
        whatTurningDoes(s);
    }

    private static void travellers(Sentences s) {
        s.holds("TRAVELLERS 0 .. 5, as they come", () -> {
            TurnBack x = new TurnBack();
            for (int n = 0; n <= 5; n++) {
                s.is("nobody yet is number " + n, x.of(n, 0), -10001);
                s.is("who comes is number", x.traveller(n, 0, 0, 0), n);
                s.is("the kind of number " + n, x.of(n, 0), n);
            }
            s.is("nobody is number -1", x.of(-1, 0), -10001);
            s.is("nobody is number 6", x.of(6, 0), -10001);
        });
        s.holds("KINDS: 0 TRAVELLER; 1 BRIDE, 2 BEGGAR, 3 POET under TRAVELLER; 4 SOLDIER under BRIDE; 5 CHILD under"
            + " BEGGAR; 6 TOLD under POET", () -> {
            // By bits, for each kind those it is under, and itself.
            int[] under = {1, 3, 5, 9, 19, 37, 73};
            for (int kind = 0; kind <= 6; kind++) {
                TurnBack x = Houses.of(0, kind);
                for (int k = 0; k <= 6; k++) {
                    s.is("kind " + kind + " for " + k, x.taken(0, k), (under[kind] >> k & 1) == 1 ? kind : -12);
                }
            }
            s.is("no kind -1", new TurnBack().traveller(-1, 0, 0, 0), -1);
            s.is("no kind 7", new TurnBack().traveller(7, 0, 0, 0), -1);
        });
        s.holds("a number v (0 .. 9)", () -> {
            TurnBack x = new TurnBack();
            s.is("v -1", x.traveller(0, -1, 0, 0), -2);
            s.is("v 0", x.traveller(0, 0, 0, 0), 0);
            s.is("v 9", x.traveller(0, 9, 0, 0), 1);
            s.is("v 10", x.traveller(0, 10, 0, 0), -2);
            s.is("0 is told", x.of(0, 1), 0);
            s.is("9 is told", x.of(1, 1), 9);
        });
        s.holds("WORTH (of the errand, 0 .. 99)", () -> {
            TurnBack x = new TurnBack();
            s.is("worth -1", x.traveller(0, 0, -1, 0), -2);
            s.is("worth 0", x.traveller(0, 0, 0, 0), 0);
            s.is("worth 99", x.traveller(0, 0, 99, 0), 1);
            s.is("worth 100", x.traveller(0, 0, 100, 0), -2);
            s.is("0 is told", x.of(0, 2), 0);
            s.is("99 is told", x.of(1, 2), 99);
        });
    }

    private static void whereTheyAre(Sentences s) {
        s.holds("a PLACE (0 home .. 10 the city; the BAR is at 5)", () -> {
            for (int place = 0; place <= 10; place++) {
                TurnBack x = Houses.of(place, 0);
                s.is("place", x.of(0, 3), place);
                s.is("in the city at " + place, x.told(3), place == 10 ? 1 : 0);
                s.is("at the bar at " + place, x.told(5), place == 5 ? 1 : 0);
                s.is("home or in the city at " + place, x.back(0, true), place == 0 || place == 10 ? -3 : 0);
            }
            s.is("no place -1", new TurnBack().traveller(0, 0, 0, -1), -1);
            s.is("no place 11", new TurnBack().traveller(0, 0, 0, 11), -1);
        });
        s.holds("BACK, or not (goes home; not at first)", () -> {
            for (int place = 0; place <= 10; place++) {
                TurnBack x = Houses.of(place, 0);
                s.is("not at first, at " + place, x.of(0, 4), 0);
            }
            TurnBack x = Houses.of(9, 0);
            x.back(0, true);
            s.is("back", x.of(0, 4), 1);
            x.pass(1);
            s.is("goes home", x.of(0, 3), 8);
        });
        s.holds("TURNED (how often, 0 .. 9999; 0 at first)", () -> {
            for (int place = 0; place <= 10; place++) {
                s.is("0 at first, at " + place, Houses.of(place, 0).of(0, 5), 0);
            }
            TurnBack x = Houses.of("pay 99", 4, 0);
            x.purse(99999);
            Houses.pass(x, 9990);
            s.is("on day 9990", x.of(0, 5), 999);
            Houses.pass(x, 9);
            s.is("on day 9999, every tenth day", x.of(0, 5), 1000);
            s.is("and it was paid each time", x.told(2), 999);
        });
    }

    private static void theHouse(Sentences s) {
        s.holds("PURSE of the house: 0 .. 99999; 500 at first.", () -> {
            TurnBack x = new TurnBack();
            s.is("at first", x.told(2), 500);
            s.is("-1", x.purse(-1), -2);
            s.is("0", x.purse(0), 500);
            s.is("0 is told", x.told(2), 0);
            s.is("99999", x.purse(99999), 0);
            s.is("99999 is told", x.told(2), 99999);
            s.is("100000", x.purse(100000), -2);
        });
        s.holds("DAY: 0 at first.", () -> {
            TurnBack x = new TurnBack();
            s.is("day", x.told(0), 0);
            s.is("no day goes", x.pass(0), 0);
        });
    }

    /** Whether a text is a season, or has its fault at a place. */
    private static void reads(Sentences s, String text, int fault) {
        s.is("season of '" + text + "'", Houses.season(new TurnBack(), text), fault < 0 ? 0 : -10 - fault);
    }

    private static final int GOOD = -1;

    private static void theText(Sentences s) {
        s.holds("THE TEXT (bytes, 100 at most)", () -> {
            String most = "more 1 p=0" + "&p=00".repeat(18);
            TurnBack x = Houses.of(0, 0);
            s.is("100 bytes", Houses.feed(x, most), 100);
            s.is("one more is not taken", x.feed('1'), -4);
            s.is("so that the 100 are a season", x.season(), 0);
            s.is("which holds", x.of(0, 6), 11);
            TurnBack less = Houses.of(0, 0);
            s.is("99 bytes", Houses.feed(less, "more 12 p=0" + "&p=0".repeat(22)), 99);
            s.is("are one, too", less.season(), 0);
            s.is("which holds", less.of(0, 6), 22);
        });
        s.holds("CLAUSES, 1 to 10", () -> {
            reads(s, "", 0);
            reads(s, "pay 1", GOOD);
            for (int more = 1; more <= 9; more++) {
                reads(s, "pay 1" + ";pay 1".repeat(more), GOOD);
            }
            reads(s, "pay 1" + ";pay 1".repeat(10), 59);
            reads(s, "pay 1" + ";pay 1".repeat(9) + ";", 59);
            reads(s, "more 1 p=0" + ";pay 1".repeat(9), GOOD);
            reads(s, "pay 1;".repeat(9) + "less 1 p=0;pay 1", 64);
        });
        s.holds("with ; between", () -> {
            reads(s, "pay 1;pay 2", GOOD);
            reads(s, ";pay 1", 0);
            reads(s, "pay 1;", 6);
            reads(s, "pay 1;;pay 2", 6);
            reads(s, "pay 1pay 2", 5);
            reads(s, "pay 1,pay 2", 5);
            reads(s, "pay 1; pay 2", 6);
            reads(s, "pay 1 ;pay 2", 5);
            reads(s, "more 1 p=0;less 1 p=0;pay 0", GOOD);
            reads(s, "more 1 p=0less 1 p=0", 10);
        });
    }

    private static void clauses(Sentences s) {
        s.holds("more n E; less n E; pay n", () -> {
            s.is("more", Houses.of("more 5 p=0", 0, 0).of(0, 6), 15);
            s.is("less", Houses.of("less 5 p=0", 0, 0).of(0, 6), 5);
            s.is("pay", Houses.of("pay 5", 0, 0).of(0, 6), 5);
            reads(s, "pay 5 p=0", 5);
            reads(s, "more 5", 6);
            reads(s, "less 5", 6);
            reads(s, "more p=0", 5);
            reads(s, "More 5 p=0", 0);
            reads(s, "mess 5 p=0", 1);
            reads(s, "lore 5 p=0", 1);
            reads(s, "moer 5 p=0", 2);
            reads(s, "lesser 5", 4);
            reads(s, "pays 5", 3);
            reads(s, "par 5", 2);
            reads(s, "aay 5", 0);
        });
        s.holds("(one blank ahead of each part behind the word", () -> {
            reads(s, "more 5 p=0", GOOD);
            reads(s, "more5 p=0", 4);
            reads(s, "more  5 p=0", 5);
            reads(s, "more 5p=0", 6);
            reads(s, "more 5  p=0", 7);
            reads(s, "more\t5 p=0", 4);
            reads(s, "less5 p=0", 4);
            reads(s, "less  5 p=0", 5);
            reads(s, "less 5(p=0)", 6);
            reads(s, "pay5", 3);
            reads(s, "pay  5", 4);
            reads(s, "pay 5 ", 5);
            reads(s, " pay 5", 0);
            reads(s, "more 5 p =0", 8);
            reads(s, "more 5 p= 0", 9);
            reads(s, "more 5 p=0 ", 10);
            reads(s, "more 5 ( p=0)", 8);
            reads(s, "more 5 ! p=0", 8);
            reads(s, "more 5 p=0 &p=0", 10);
            reads(s, "more 5 p=0| p=0", 11);
        });
    }

    private static void parts(Sentences s) {
        s.holds("n 1 or 2 digits)", () -> {
            s.is("pay 0", Houses.of("pay 0", 0).told(1), 0);
            s.is("pay 9", Houses.of("pay 9", 0).told(1), 9);
            s.is("pay 00", Houses.of("pay 00", 0).told(1), 0);
            s.is("pay 07", Houses.of("pay 07", 0).told(1), 7);
            s.is("pay 10", Houses.of("pay 10", 0).told(1), 10);
            s.is("pay 99", Houses.of("pay 99", 0).told(1), 99);
            s.is("more 0", Houses.of("more 0 p=0", 0, 0).of(0, 6), 10);
            s.is("more 99", Houses.of("more 99 p=0", 0, 0).of(0, 6), 109);
            s.is("less 0", Houses.of("less 0 p=0", 0, 0).of(0, 6), 10);
            s.is("less 99", Houses.of("less 99 p=0", 0, 0).of(0, 6), -89);
            reads(s, "pay ", 4);
            reads(s, "pay 100", 6);
            reads(s, "pay 000", 6);
            reads(s, "pay -1", 4);
            reads(s, "pay x", 4);
            reads(s, "pay /", 4);
            reads(s, "pay :", 4);
            reads(s, "pay 1x", 5);
            reads(s, "more 100 p=0", 7);
            reads(s, "more  p=0", 5);
            reads(s, "less 999 p=0", 7);
            reads(s, "less +1 p=0", 5);
        });
    }

    /** Whether an expression holds for one: its offer is otherwise with it. */
    private static void holds(Sentences s, Supplier<TurnBack> made, int t, String expression, boolean so) {
        TurnBack without = made.get();
        s.is("'pay 0'", Houses.season(without, "pay 0") >= 0 ? 1 : 0, 1);
        TurnBack with = made.get();
        int number = Houses.season(with, "pay 0;more 20 " + expression);
        s.is("season of '" + expression + "'", number >= 0 ? 1 : 0, 1);
        s.is(expression + " of " + t, with.of(t, 6) != without.of(t, 6) ? 1 : 0, so ? 1 : 0);
    }

    /** For the second of two, p=1 holds, and p=0 does not. */
    private static void holds(Sentences s, String expression, boolean so) {
        holds(s, () -> Houses.of(0, 0, 0), 1, expression, so);
    }

    private static void expressions(Sentences s) {
        s.holds("E: T or T|E.", () -> {
            holds(s, "p=1|p=1", true);
            holds(s, "p=1|p=0", true);
            holds(s, "p=0|p=1", true);
            holds(s, "p=0|p=0", false);
            holds(s, "p=0|p=0|p=1", true);
            holds(s, "p=1|p=0|p=0", true);
            holds(s, "p=1|p=1&p=0", true);
            holds(s, "p=0&p=1|p=1", true);
            holds(s, "p=0&p=1|p=0", false);
            reads(s, "less 1 p=1|", 11);
            reads(s, "less 1 |p=1", 7);
            reads(s, "less 1 p=1||p=1", 11);
            reads(s, "less 1 p=1|&p=1", 11);
        });
        s.holds("T: F or F&T.", () -> {
            holds(s, "p=1&p=1", true);
            holds(s, "p=1&p=0", false);
            holds(s, "p=0&p=1", false);
            holds(s, "p=0&p=0", false);
            holds(s, "p=1&p=1&p=0", false);
            holds(s, "p=1&p=1&p=1", true);
            holds(s, "p=0|p=1&p=1", true);
            holds(s, "p=1|p=0&p=0", true);
            holds(s, "p=0|p=1&p=0|p=0", false);
            reads(s, "less 1 p=1&", 11);
            reads(s, "less 1 &p=1", 7);
            reads(s, "less 1 p=1&&p=1", 11);
            reads(s, "less 1 p=1&|p=1", 11);
            reads(s, "less 1 p=1p=1", 10);
        });
        s.holds("F: !F, (E), or a TEST", () -> {
            holds(s, "!p=0", true);
            holds(s, "!p=1", false);
            holds(s, "!!p=1", true);
            holds(s, "!p=1&p=0", false);
            holds(s, "!(p=1&p=0)", true);
            holds(s, "!p=1|p=1", true);
            holds(s, "!(p=1|p=1)", false);
            holds(s, "(p=1)", true);
            holds(s, "(p=1|p=1)&p=0", false);
            holds(s, "p=0&(p=1|p=1)", false);
            holds(s, "p=1&!(p=0|p=0)", true);
            reads(s, "less 1 !", 8);
            reads(s, "less 1 !&p=1", 8);
            reads(s, "less 1 p=1!", 10);
            reads(s, "less 1 ()", 8);
            reads(s, "less 1 (", 8);
            reads(s, "less 1 )", 7);
            reads(s, "less 1 (p=1", 11);
            reads(s, "less 1 p=1)", 10);
            reads(s, "less 1 (p=1))", 12);
            reads(s, "less 1 (p=1;pay 1)", 11);
            reads(s, "less 1 (p=1)(p=1)", 12);
        });
    }

    private static void tests(Sentences s) {
        s.holds("a TEST: a letter, < or = or >, a number (1 or 2 digits)", () -> {
            holds(s, "p<2", true);
            holds(s, "p<1", false);
            holds(s, "p=1", true);
            holds(s, "p=2", false);
            holds(s, "p>0", true);
            holds(s, "p>1", false);
            holds(s, "p=01", true);
            holds(s, "p=10", false);
            holds(s, "p<99", true);
            holds(s, "p>99", false);
            holds(s, "p>00", true);
            for (char letter : "pkvwtd".toCharArray()) {
                reads(s, "less 1 " + letter + "<10", GOOD);
            }
            for (char letter : "PaxoqKVujseclWTD1=".toCharArray()) {
                reads(s, "less 1 " + letter + "<10", 7);
            }
            for (char relation : "!;?&1p -".toCharArray()) {
                reads(s, "less 1 p" + relation + "1", 8);
            }
            reads(s, "less 1 p<=1", 9);
            reads(s, "less 1 p==1", 9);
            reads(s, "less 1 p=", 9);
            reads(s, "less 1 p", 8);
            reads(s, "less 1 p=p", 9);
            reads(s, "less 1 p=-1", 9);
            reads(s, "less 1 p=111", 11);
            reads(s, "less 1 p=000", 11);
            reads(s, "less 1 1=p", 7);
        });
    }

    /** That a letter is a number for one: the tests with that number, one below, one above. */
    private static void isNumber(Sentences s, Supplier<TurnBack> made, int t, char letter, int n) {
        holds(s, made, t, letter + "=" + n, true);
        holds(s, made, t, letter + "<" + n, false);
        holds(s, made, t, letter + ">" + n, false);
        holds(s, made, t, letter + "=" + (n + 1), false);
        holds(s, made, t, letter + "<" + (n + 1), true);
        if (n > 0) {
            holds(s, made, t, letter + "=" + (n - 1), false);
            holds(s, made, t, letter + ">" + (n - 1), true);
        }
    }

    private static void values(Sentences s) {
        s.holds("of a TRAVELLER p its number, k its KIND, v its v", () -> {
            Supplier<TurnBack> six = () -> {
                TurnBack x = new TurnBack();
                for (int t = 0; t < 6; t++) {
                    x.traveller(t, t == 0 ? 0 : 10 - 2 * t, 0, 0);
                }
                return x;
            };
            for (int t = 0; t < 6; t++) {
                isNumber(s, six, t, 'p', t);
                isNumber(s, six, t, 'k', t);
                isNumber(s, six, t, 'v', t == 0 ? 0 : 10 - 2 * t);
            }
            Supplier<TurnBack> most = () -> {
                TurnBack x = new TurnBack();
                x.traveller(6, 9, 0, 0);
                return x;
            };
            isNumber(s, most, 0, 'k', 6);
            isNumber(s, most, 0, 'v', 9);
        });
    }

    private static TurnBack worth(int worth) {
        TurnBack x = new TurnBack();
        x.traveller(0, 0, worth, 0);
        return x;
    }

    /** One who has turned so often, and is at the bar. */
    private static TurnBack turned(int kind, int times) {
        TurnBack x = Houses.of("pay 99", times == 0 ? 5 : 4, kind);
        x.purse(99999);
        for (int i = 0; i < times; i++) {
            x.set(0, 0, 0);
            x.set(0, 1, 4);
            x.pass(1);
        }
        return x;
    }

    private static TurnBack onDay(int day, int... kinds) {
        TurnBack x = Houses.of(10, kinds);
        Houses.pass(x, day);
        return x;
    }

    private static void valuesThatAreCut(Sentences s) {
        s.holds("w WORTH by 10 (cut)", () -> {
            int[][] cut = {{0, 0}, {9, 0}, {10, 1}, {11, 1}, {19, 1}, {20, 2}, {89, 8}, {90, 9}, {99, 9}};
            for (int[] one : cut) {
                isNumber(s, () -> worth(one[0]), 0, 'w', one[1]);
            }
        });
        s.holds("t TURNED modulo 10", () -> {
            int[][] rest = {{0, 0}, {1, 1}, {9, 9}, {10, 0}, {11, 1}, {19, 9}, {20, 0}};
            for (int[] one : rest) {
                s.is("turned", turned(0, one[0]).of(0, 5), one[0]);
                isNumber(s, () -> turned(0, one[0]), 0, 't', one[1]);
            }
        });
        s.holds("d DAY modulo 10", () -> {
            int[][] rest = {{0, 0}, {1, 1}, {9, 9}, {10, 0}, {11, 1}, {19, 9}, {20, 0}, {9990, 0}, {9999, 9}};
            for (int[] one : rest) {
                isNumber(s, () -> onDay(one[0], 0), 0, 'd', one[1]);
            }
        });
    }

    private static void within(Sentences s) {
        s.holds("A ( or ! within 4 others is none.", () -> {
            reads(s, "less 1 (((p=1)))", GOOD);
            reads(s, "less 1 ((((p=1))))", GOOD);
            reads(s, "less 1 (((((p=1)))))", 11);
            reads(s, "less 1 !!!p=1", GOOD);
            reads(s, "less 1 !!!!p=1", GOOD);
            reads(s, "less 1 !!!!!p=1", 11);
            reads(s, "less 1 !(!(p=1))", GOOD);
            reads(s, "less 1 !(!(!p=1))", 11);
            reads(s, "less 1 !(!((p=1)))", 11);
            reads(s, "less 1 ((((!p=1))))", 11);
            reads(s, "less 1 !!!!(p=1)", 11);
            reads(s, "less 1 (((p=1&!p=2)))", GOOD);
            reads(s, "less 1 ((((p=1&!p=2))))", 15);
            reads(s, "less 1 ((((p=1|(p=2)))))", 15);
            // Those that are closed are not around what comes then.
            reads(s, "less 1 !p=1&!p=1&!p=1&!p=1&!p=1|!p=1", GOOD);
            reads(s, "less 1 ((((p=1))))&((((p=1))))|!!!!p=1", GOOD);
            reads(s, "less 1 (((p=1)&(p=1)|!p=1))", GOOD);
            reads(s, "less 1 (((((p=1))))", 11);
            reads(s, "less 1 !!!!p=1;less 1 !!!!p=1", GOOD);
            holds(s, "!!!!p=1", true);
            holds(s, "((((p=1))))", true);
            holds(s, "!(!(p=0))", false);
            holds(s, "p=0|(p=1&(p=0|(p=1&(p=1|p=0))))", true);
            holds(s, "p=1&(p=0|(p=1&(p=0|(p=1&p=0))))", false);
        });
    }

    private static final String LONG = "more 12 !(p=1|w<22)&d>0;pay 5";

    private static void faults(Sentences s) {
        s.holds("The FAULT: the place of the first byte with which none begins so", () -> {
            for (int at = 0; at < LONG.length(); at++) {
                for (char other : new char[] {'~', 0, 127, '\n'}) {
                    reads(s, LONG.substring(0, at) + other + LONG.substring(at + 1), at);
                }
            }
            reads(s, LONG + "~", LONG.length());
            reads(s, "???", 0);
            reads(s, "?", 0);
            reads(s, "pay 5~~~", 5);
            // The first, though others follow it.
            reads(s, "pax 5;pax 5", 2);
            reads(s, "pay 5" + "x".repeat(95), 5);
            reads(s, "pay 5;".repeat(9) + "more 1 p=1&w=4x", 68);
        });
        s.holds("(the end of THE TEXT, if it ends too early)", () -> {
            for (int length = 0; length <= LONG.length(); length++) {
                // Where the expression could stop, and at the end.
                boolean whole = length == 19 || length == 23 || length == 29;
                reads(s, LONG.substring(0, length), whole ? GOOD : length);
            }
            String most = "more 1 p=00" + "&p=0".repeat(22) + "|";
            s.is("100 bytes", most.length(), 100);
            reads(s, most, 100);
            reads(s, "", 0);
        });
    }

    private static void theNewest(Sentences s) {
        s.holds("The newest SEASON holds (6 at most)", () -> {
            TurnBack x = Houses.of(0, 0);
            for (int n = 0; n < 6; n++) {
                s.is("its number", Houses.season(x, "pay 2" + n + ";more " + n + " p=0"), n);
                s.is("its pay", x.told(1), 20 + n);
                s.is("its clauses", x.of(0, 6), 20 + 2 * n);
            }
            s.is("a seventh", Houses.season(x, "pay 1"), -4);
            s.is("the sixth holds", x.told(1), 25);
            s.is("its clauses", x.of(0, 6), 30);
        });
        s.holds("without one there are no CLAUSES.", () -> {
            TurnBack x = new TurnBack();
            for (int t = 0; t < 6; t++) {
                x.traveller(0, t, 10 * t, t);
                s.is("sum of " + t, x.of(t, 6), 10);
            }
            s.is("after a fault, too", Houses.season(x, "more 9 p=1;"), -21);
            s.is("sum after a fault", x.of(1, 6), 10);
        });
        s.holds("PAY (10 without): the last one's n.", () -> {
            s.is("no season", new TurnBack().told(1), 10);
            s.is("a season without pay", Houses.of("more 3 p=0", 0).told(1), 10);
            s.is("one", Houses.of("pay 9", 0).told(1), 9);
            s.is("the last of two", Houses.of("pay 9;pay 11", 0).told(1), 11);
            s.is("the last of three", Houses.of("pay 9;more 3 p=0;pay 11;less 3 p=0;pay 0;more 2 p=1", 0).told(1), 0);
            TurnBack then = Houses.of("pay 33", 0, 0);
            Houses.season(then, "more 3 p=0");
            s.is("none is left of the one before", then.told(1), 10);
            s.is("nor of its sum", then.of(0, 6), 13);
        });
    }

    private static void sums(Sentences s) {
        s.holds("SUM of a TRAVELLER: PAY, and the n of all more whose E holds, less those of all less, together"
            + " (may be below 0).", () -> {
            s.is("0", Houses.of("pay 9;less 9 p=0", 0, 0).of(0, 6), 0);
            s.is("-1", Houses.of("pay 9;less 10 p=0", 0, 0).of(0, 6), -1);
            s.is("1", Houses.of("pay 9;less 8 p=0", 0, 0).of(0, 6), 1);
            s.is("all more", Houses.of("more 99 p=0" + ";more 99 p=0".repeat(7), 0, 0).of(0, 6), 802);
            s.is("all less", Houses.of("pay 0" + ";less 99 p=0".repeat(7), 0, 0).of(0, 6), -693);
            s.is("more and less", Houses.of("more 5 p=0;less 7 p=0;more 1 p=0;pay 3", 0, 0).of(0, 6), 2);
            s.is("ten clauses", Houses.of("more 1 p=0;" + "pay 2;".repeat(8) + "more 4 p=0", 0, 0).of(0, 6), 7);
            TurnBack two = Houses.of("more 5 p=0;less 7 p=1", 0, 0, 0);
            s.is("of one", two.of(0, 6), 15);
            s.is("of the other", two.of(1, 6), 3);
        });
    }

    /** What one alone is offered on day 0. */
    private static int offer(int kind, int v, String season) {
        TurnBack x = new TurnBack();
        x.traveller(kind, v, 0, 0);
        Houses.season(x, season);
        return x.of(0, 6);
    }

    private static void offers(Sentences s) {
        s.holds("OFFER to a TRAVELLER (may be below 0): TRAVELLER: SUM.", () -> {
            s.is("without a season", Houses.of(0, 0).of(0, 6), 10);
            s.is("v does not matter", offer(0, 9, "pay 7"), 7);
            s.is("0", offer(0, 9, "pay 0"), 0);
            s.is("below 0", offer(0, 9, "pay 0;less 1 p=0"), -1);
            // Kinds 1 to 6, all at SUM -98.
            int[] below = {-98, -95, -49, -98, -95, -44, -98};
            for (int kind = 0; kind <= 6; kind++) {
                s.is("kind " + kind, offer(kind, 3, "pay 1;less 99 p=0"), below[kind]);
            }
        });
        s.holds("BRIDE: SUM and v.", () -> {
            s.is("v 0", offer(1, 0, "pay 7"), 7);
            s.is("v 9", offer(1, 9, "pay 7"), 16);
            s.is("to 0", offer(1, 9, "pay 0;less 9 p=0"), 0);
            s.is("below 0", offer(1, 8, "pay 0;less 9 p=0"), -1);
        });
        s.holds("BEGGAR: the half (cut toward 0) of SUM.", () -> {
            int[][] half = {{3, 1}, {2, 1}, {1, 0}, {0, 0}, {99, 49}, {98, 49}};
            for (int[] one : half) {
                s.is("of " + one[0], offer(2, 9, "pay " + one[0]), one[1]);
            }
            int[][] below = {{1, 0}, {2, -1}, {3, -1}, {4, -2}, {5, -2}, {99, -49}};
            for (int[] one : below) {
                s.is("of -" + one[0], offer(2, 9, "pay 0;less " + one[0] + " p=0"), one[1]);
            }
        });
        s.holds("POET: SUM, less how often it TURNED (10 at most).", () -> {
            int[][] less = {{0, 99}, {1, 98}, {9, 90}, {10, 89}, {11, 89}, {12, 89}, {20, 89}};
            for (int[] one : less) {
                s.is("turned " + one[0], turned(3, one[0]).of(0, 6), one[1]);
            }
            TurnBack x = turned(3, 11);
            Houses.season(x, "pay 9");
            s.is("below 0", x.of(0, 6), -1);
        });
    }

    private static void offersByOthersAndDays(Sentences s) {
        s.holds("SOLDIER: as BRIDE; twice that, if another one is at the BAR.", () -> {
            for (int place = 0; place <= 10; place++) {
                TurnBack x = new TurnBack();
                x.traveller(4, 9, 0, 0);
                x.traveller(0, 0, 0, place);
                s.is("another one at " + place, x.of(0, 6), place == 5 ? 38 : 19);
                TurnBack alone = new TurnBack();
                alone.traveller(4, 9, 0, place);
                s.is("alone at " + place, alone.of(0, 6), 19);
            }
            TurnBack x = new TurnBack();
            x.traveller(4, 0, 0, 5);
            x.traveller(4, 9, 0, 5);
            s.is("each is another one: the first", x.of(0, 6), 20);
            s.is("each is another one: the second", x.of(1, 6), 38);
            x.back(0, true);
            s.is("one who is back", x.of(1, 6), 38);
            TurnBack three = Houses.of(5, 0, 0, 4);
            s.is("twice, also by two others", three.of(2, 6), 20);
            TurnBack below = Houses.of("pay 0;less 3 p=1", 5, 0, 4);
            s.is("twice what is below 0", below.of(1, 6), -6);
            // The sixth, by the first; and the first, by the sixth.
            TurnBack six = Houses.of(0, 4, 0, 0, 0, 0, 4);
            six.set(5, 1, 5);
            s.is("by the sixth", six.of(0, 6), 20);
            s.is("not by itself", six.of(5, 6), 10);
        });
        s.holds("CHILD: as BEGGAR, and 5, if DAY modulo 7 is 0.", () -> {
            int[][] days = {{0, 10}, {1, 5}, {6, 5}, {7, 10}, {8, 5}, {13, 5}, {14, 10}, {9996, 10}, {9999, 5}};
            for (int[] one : days) {
                s.is("on day " + one[0], onDay(one[0], 5).of(0, 6), one[1]);
            }
            s.is("half cut, and 5", offer(5, 9, "pay 9"), 9);
            s.is("half of -1, and 5", offer(5, 9, "pay 0;less 1 p=0"), 5);
            s.is("half of -11, and 5", offer(5, 9, "pay 0;less 11 p=0"), 0);
        });
        s.holds("TOLD: as POET, and its ROW (four numbers 0 .. 9; 0 at first) at DAY modulo 4 more.", () -> {
            TurnBack x = Houses.of(10, 6);
            for (int part = 0; part < 4; part++) {
                s.is("at first, part " + part, x.row(0, part, 9 - 3 * part), 0);
            }
            int[] more = {9, 6, 3, 0};
            for (int day = 0; day <= 8; day++) {
                s.is("on day " + day, x.of(0, 6), 10 + more[day % 4]);
                x.pass(1);
            }
            TurnBack late = onDay(9998, 6);
            late.row(0, 2, 5);
            late.row(0, 3, 7);
            s.is("on day 9998", late.of(0, 6), 15);
            late.pass(1);
            s.is("on day 9999", late.of(0, 6), 17);
            s.is("no part -1", late.row(0, -1, 0), -1);
            s.is("no part 4", late.row(0, 4, 0), -1);
            s.is("no number -1", late.row(0, 0, -1), -2);
            s.is("no number 10", late.row(0, 0, 10), -2);
            int[][] less = {{0, 99}, {1, 98}, {9, 90}, {10, 89}, {11, 89}};
            for (int[] one : less) {
                s.is("turned " + one[0], turned(6, one[0]).of(0, 6), one[1]);
            }
        });
    }

    private static void days(Sentences s) {
        s.holds("one behind the other by number", () -> {
            TurnBack x = Houses.of(4, 0, 0, 0);
            x.purse(29);
            x.pass(1);
            s.is("the first two are paid", x.told(4), 3);
            s.is("the purse", x.told(2), 9);
            TurnBack ahead = Houses.of(4, 4, 0);
            ahead.pass(1);
            s.is("a soldier ahead of the other is there alone", ahead.told(2), 480);
            TurnBack behind = Houses.of(4, 0, 4);
            behind.pass(1);
            s.is("a soldier behind the other is not", behind.told(2), 470);
            TurnBack left = Houses.of(4, 0, 4);
            left.set(0, 1, 5);
            left.pass(1);
            s.is("the one before has left the bar", left.told(2), 490);
            TurnBack still = Houses.of(4, 4, 0);
            still.set(1, 1, 5);
            still.pass(1);
            s.is("the one behind is still there", still.told(2), 480);
        });
        s.holds("each TRAVELLER who is not in the city goes a PLACE on (back, if it is BACK).", () -> {
            for (int place = 0; place <= 10; place++) {
                TurnBack x = Houses.of("pay 0", place, 0);
                x.pass(1);
                s.is("from " + place, x.of(0, 3), Math.min(place + 1, 10));
            }
            for (int place = 1; place <= 9; place++) {
                TurnBack x = Houses.of("pay 0", place, 0);
                x.back(0, true);
                x.pass(1);
                s.is("back from " + place, x.of(0, 3), place - 1);
            }
            TurnBack there = Houses.of(10, 0);
            there.pass(60);
            s.is("stays in the city", there.of(0, 3), 10);
        });
        s.holds("If it is home then, it is not BACK any more.", () -> {
            TurnBack x = Houses.of(2, 0);
            x.back(0, true);
            x.pass(1);
            s.is("at 1", x.of(0, 4), 1);
            x.pass(1);
            s.is("home", x.of(0, 3), 0);
            s.is("not any more", x.of(0, 4), 0);
            x.pass(1);
            s.is("and on again", x.of(0, 3), 1);
        });
        s.holds("DAY is 1 more.", () -> {
            TurnBack x = Houses.of("pay 0;more 9 d=0", 4, 0, 0, 0, 0, 0, 0);
            s.is("day", x.pass(1), 1);
            s.is("and no earlier than behind all of them", x.told(2), 446);
            TurnBack nobody = new TurnBack();
            s.is("of nobody, too", nobody.pass(1), 1);
            s.is("and again", nobody.pass(1), 2);
        });
    }

    /** Whether one goes home behind a day, from a place, by a season, with a worth and a purse. */
    private static void turns(Sentences s, String season, int place, int worth, int purse, boolean so) {
        TurnBack x = new TurnBack();
        x.traveller(0, 0, worth, place);
        Houses.season(x, season);
        x.purse(purse);
        x.pass(1);
        String call = season + " from " + place + ", worth " + worth + ", purse " + purse;
        s.is(call + ": back", x.of(0, 4), so ? 1 : 0);
        s.is(call + ": turned", x.of(0, 5), so ? 1 : 0);
        s.is(call + ": place", x.of(0, 3), place + 1);
        if (!so) {
            s.is(call + ": purse", x.told(2), purse);
            s.is(call + ": worth", x.of(0, 2), worth);
        }
    }

    private static void whoTurns(Sentences s) {
        s.holds("If it is at the BAR then and not BACK, it TURNS", () -> {
            for (int place = 0; place <= 9; place++) {
                turns(s, "pay 10", place, 0, 500, place == 4);
            }
            TurnBack x = Houses.of(6, 0);
            x.back(0, true);
            x.pass(1);
            s.is("at the bar, back", x.told(5), 1);
            s.is("has not turned", x.of(0, 5), 0);
            s.is("is paid nothing", x.told(2), 500);
            s.is("stays back", x.of(0, 4), 1);
        });
        s.holds("if OFFER is more than 0", () -> {
            turns(s, "pay 1", 4, 0, 500, true);
            turns(s, "pay 0", 4, 0, 500, false);
            turns(s, "pay 0", 4, 0, 0, false);
            turns(s, "pay 0;less 1 p=0", 4, 0, 500, false);
        });
        s.holds("no more than PURSE", () -> {
            turns(s, "pay 20", 4, 0, 21, true);
            turns(s, "pay 20", 4, 0, 20, true);
            turns(s, "pay 20", 4, 0, 19, false);
            turns(s, "pay 20", 4, 0, 0, false);
            turns(s, "pay 99", 4, 0, 99999, true);
        });
        s.holds("and as much as WORTH or more", () -> {
            turns(s, "pay 20", 4, 19, 500, true);
            turns(s, "pay 20", 4, 20, 500, true);
            turns(s, "pay 20", 4, 21, 500, false);
            turns(s, "pay 99", 4, 99, 500, true);
            turns(s, "pay 98", 4, 99, 500, false);
        });
    }

    private static void whatTurningDoes(Sentences s) {
        s.holds("PURSE is OFFER less, it is BACK, TURNED is 1 more, and WORTH 3 more (99 at most).", () -> {
            int[][] more = {{0, 3}, {1, 4}, {95, 98}, {96, 99}, {97, 99}, {98, 99}, {99, 99}};
            for (int[] one : more) {
                TurnBack x = new TurnBack();
                x.traveller(0, 0, one[0], 4);
                Houses.season(x, "pay 99");
                x.pass(1);
                s.is("worth " + one[0], x.of(0, 2), one[1]);
                s.is("purse", x.told(2), 401);
                s.is("back", x.of(0, 4), 1);
                s.is("turned", x.of(0, 5), 1);
            }
            TurnBack last = Houses.of("pay 99", 4, 0);
            last.purse(99);
            last.pass(1);
            s.is("all of the purse", last.told(2), 0);
            TurnBack first = Houses.of("pay 1", 4, 0);
            first.purse(99999);
            first.pass(1);
            s.is("1 of the greatest purse", first.told(2), 99998);
        });
    }
}
