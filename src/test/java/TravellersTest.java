/** Promises 1 to 7: a new object, travellers, what is told of them and set, the purse, the rows. */
public final class TravellersTest {
    private static final Due due = new Due("TravellersTest");

    public static void main(String[] args) {
        aNewObject();
        traveller();
        ofWhatIsTold();
        ofOffers();
        ofOfferOfSoldiers();
        ofOfferOfPoets();
        ofGets();
        set();
        back();
        purse();
        row();
        due.end();
    }

    private static void aNewObject() {
        TurnBack x = new TurnBack();
        for (int what = 0; what <= 6; what++) {
            due.is("new: count(" + what + ")", x.count(what), 0);
        }
        due.is("new: day", x.told(0), 0);
        due.is("new: pay", x.told(1), 10);
        due.is("new: purse", x.told(2), 500);
        due.is("new: city", x.told(3), 0);
        due.is("new: back", x.told(4), 0);
        due.is("new: bar", x.told(5), 0);
        due.is("new: no image", x.undo(), -3);
        due.is("new: no trace", x.trace(0), -1);
        due.is("new: tape", x.read(0, 0), Long.MIN_VALUE);
        due.is("new: item", x.item(5, 0, 1), -11);
        due.is("new: nobody", x.of(0, 0), -10001);
        due.is("NONE", TurnBack.NONE, -1);
        due.is("BAD", TurnBack.BAD, -2);
        due.is("STATE", TurnBack.STATE, -3);
        due.is("FULL", TurnBack.FULL, -4);
        due.is("NO", TurnBack.NO, Long.MIN_VALUE);
    }

    private static void traveller() {
        TurnBack x = new TurnBack();
        due.is("kind -1", x.traveller(-1, 0, 0, 0), -1);
        due.is("kind 7", x.traveller(7, 0, 0, 0), -1);
        due.is("place -1", x.traveller(0, 0, 0, -1), -1);
        due.is("place 11", x.traveller(0, 0, 0, 11), -1);
        due.is("v -1", x.traveller(0, -1, 0, 0), -2);
        due.is("v 10", x.traveller(0, 10, 0, 0), -2);
        due.is("worth -1", x.traveller(0, 0, -1, 0), -2);
        due.is("worth 100", x.traveller(0, 0, 100, 0), -2);
        due.is("NONE ahead of BAD", x.traveller(0, 10, 100, 11), -1);
        due.is("NONE ahead of BAD, by kind", x.traveller(7, 10, 100, 0), -1);
        due.is("ints", x.traveller(Integer.MIN_VALUE, 0, 0, Integer.MAX_VALUE), -1);
        due.is("nobody came", x.count(0), 0);
        due.is("the first", x.traveller(0, 0, 0, 0), 0);
        due.is("the second", x.traveller(6, 9, 99, 10), 1);
        due.is("the third", x.traveller(3, 1, 2, 3), 2);
        due.are("of the second", told(x, 1), 6, 9, 99, 10, 0, 0);
        due.are("of the third", told(x, 2), 3, 1, 2, 3, 0, 0);
        due.is("4", x.traveller(1, 0, 0, 5), 3);
        due.is("5", x.traveller(2, 0, 0, 0), 4);
        due.is("6", x.traveller(4, 0, 0, 0), 5);
        due.is("full", x.traveller(0, 0, 0, 0), -4);
        due.is("NONE ahead of FULL", x.traveller(0, 0, 0, 11), -1);
        due.is("BAD ahead of FULL", x.traveller(0, 0, 100, 0), -2);
        due.is("six came", x.count(0), 6);
    }

    private static long[] told(TurnBack x, int t) {
        long[] told = new long[6];
        for (int what = 0; what < 6; what++) {
            told[what] = x.of(t, what);
        }
        return told;
    }

    private static void ofWhatIsTold() {
        TurnBack x = new TurnBack();
        x.traveller(2, 7, 4, 4);
        due.are("at first", told(x, 0), 2, 7, 4, 4, 0, 0);
        x.pass(1);
        due.are("when it turned", told(x, 0), 2, 7, 7, 5, 1, 1);
        x.pass(5);
        due.are("home again", told(x, 0), 2, 7, 7, 0, 0, 1);
        due.is("no traveller -1", x.of(-1, 0), -10001);
        due.is("no traveller 1", x.of(1, 0), -10001);
        due.is("nothing -1", x.of(0, -1), -10001);
        due.is("nothing 8", x.of(0, 8), -10001);
        due.is("nothing of nobody", x.of(6, 8), -10001);
        due.is("ints", x.of(Integer.MAX_VALUE, Integer.MIN_VALUE), -10001);
    }

    private static void ofOffers() {
        TurnBack x = new TurnBack();
        for (int kind = 0; kind <= 5; kind++) {
            x.traveller(kind, 3, 0, 1);
        }
        due.are("pay 10, day 0", offers(x), 10, 13, 5, 10, 13, 10);
        x.pass(1);
        due.are("pay 10, day 1", offers(x), 10, 13, 5, 10, 13, 5);
        Houses.season(x, "pay 11");
        due.are("pay 11", offers(x), 11, 14, 5, 11, 14, 5);
        Houses.season(x, "pay 0;less 9 k>0");
        due.are("less 9", offers(x), 0, -6, -4, -9, -6, -4);
        Houses.pass(x, 6);
        due.is("day 7: the child's", x.of(5, 6), 1);
        Houses.season(x, "pay 0;less 99 p=2;less 99 p=2;less 99 p<9");
        due.is("far below 0", x.of(2, 6), -148);
        due.is("wherever it is", x.of(0, 6), -99);
        Houses.season(x, "more 5 p=0;more 5 p=0;less 3 p=0");
        due.is("pay 10 by a season without pay", x.of(0, 6), 17);
        due.is("and for others", x.of(3, 6), 10);
        TurnBack one = Houses.of(0, 6);
        one.row(0, 0, 9);
        one.row(0, 3, 7);
        due.is("row, day 0", one.of(0, 6), 19);
        one.pass(1);
        due.is("row, day 1", one.of(0, 6), 10);
        one.pass(2);
        due.is("row, day 3", one.of(0, 6), 17);
        one.pass(1);
        due.is("row, day 4", one.of(0, 6), 19);
    }

    private static long[] offers(TurnBack x) {
        long[] offers = new long[x.count(0)];
        for (int t = 0; t < offers.length; t++) {
            offers[t] = x.of(t, 6);
        }
        return offers;
    }

    private static void ofOfferOfSoldiers() {
        TurnBack x = new TurnBack();
        x.traveller(4, 2, 0, 5);
        x.traveller(0, 2, 0, 4);
        x.traveller(1, 2, 0, 4);
        due.is("itself at the bar does not count", x.of(0, 6), 12);
        x.set(1, 1, 5);
        due.is("another one is at the bar", x.of(0, 6), 24);
        due.is("a bride's stays", x.of(2, 6), 12);
        x.back(1, true);
        due.is("another one, who is back", x.of(0, 6), 24);
        x.set(0, 1, 0);
        due.is("wherever the soldier is", x.of(0, 6), 24);
        Houses.season(x, "pay 0;less 9 v>0");
        due.is("twice what is below 0", x.of(0, 6), -14);
        // One behind the other: the first comes to the bar alone, the last finds two there.
        TurnBack row = Houses.of(4, 4, 4, 0, 4);
        row.pass(1);
        due.is("10, 20, 10, 20", row.told(2), 440);
    }

    private static void ofOfferOfPoets() {
        TurnBack x = Houses.of("pay 40", 0, 3, 6);
        x.purse(99999);
        x.row(1, 0, 1);
        for (int turned = 0; turned <= 12; turned++) {
            due.is("a poet who turned " + turned, x.of(0, 6), 40 - Math.min(turned, 10));
            due.is("one told who turned " + turned, x.of(1, 6) - (x.told(0) % 4 == 0 ? 1 : 0), 40 - Math.min(turned, 10));
            due.is("turned", x.of(0, 5), turned);
            x.set(0, 0, 0);
            x.set(1, 0, 0);
            x.pass(10);
        }
    }

    private static void ofGets() {
        TurnBack x = new TurnBack();
        x.traveller(0, 0, 99, 0);
        x.traveller(0, 0, 0, 10);
        x.traveller(0, 0, 99, 9);
        x.traveller(0, 0, 8, 0);
        x.traveller(0, 0, 0, 4);
        x.traveller(0, 0, 99, 6);
        x.back(5, true);
        due.is("straight on", x.of(0, 7), 10);
        due.is("there", x.of(1, 7), 0);
        due.is("the last step", x.of(2, 7), 1);
        due.is("turns once", x.of(3, 7), 20);
        due.is("0, 3, 6, 9 and no more", x.of(4, 7), 46);
        due.is("goes home first", x.of(5, 7), 16);
        due.is("asked: day", x.told(0), 0);
        Houses.season(x, "pay 99");
        x.purse(99999);
        due.is("not by 60 days", x.of(4, 7), -5);
        TurnBack edge = Houses.of("pay 14", 0, 0);
        due.is("just by 60 days", edge.of(0, 7), 60);
        edge.set(0, 1, 9);
        edge.back(0, true);
        due.is("not by 60 days, but by 69", edge.of(0, 7), -5);
        edge.pass(9);
        due.is("nine days later", edge.of(0, 7), 60);
    }

    private static void set() {
        TurnBack x = Houses.of(3, 0, 1);
        due.is("worth", x.set(0, 0, 99), 0);
        due.is("worth again", x.set(0, 0, 0), 99);
        due.is("worth of the other", x.set(1, 0, 7), 0);
        due.is("place", x.set(0, 1, 10), 3);
        due.is("place again", x.set(0, 1, 4), 10);
        due.is("worth stays", x.of(1, 2), 7);
        x.back(0, true);
        due.is("to the same place", x.set(0, 1, 4), 4);
        due.is("not back any more", x.of(0, 4), 0);
        x.back(0, true);
        x.set(0, 0, 5);
        due.is("back by a worth", x.of(0, 4), 1);
        due.is("no traveller -1", x.set(-1, 0, 0), -1);
        due.is("no traveller 2", x.set(2, 0, 0), -1);
        due.is("nothing -1", x.set(0, -1, 0), -1);
        due.is("nothing 2", x.set(0, 2, 0), -1);
        due.is("NONE ahead of BAD", x.set(0, 2, 1000), -1);
        due.is("worth -1", x.set(0, 0, -1), -2);
        due.is("worth 100", x.set(0, 0, 100), -2);
        due.is("place -1", x.set(0, 1, -1), -2);
        due.is("place 11", x.set(0, 1, 11), -2);
        due.is("worth stands", x.of(0, 2), 5);
        due.is("place stands", x.of(0, 3), 4);
        due.is("still back", x.of(0, 4), 1);
    }

    private static void back() {
        TurnBack x = Houses.of(0, 0, 0, 0, 0);
        x.set(1, 1, 1);
        x.set(2, 1, 9);
        x.set(3, 1, 10);
        due.is("home", x.back(0, true), -3);
        due.is("home, not back", x.back(0, false), -3);
        due.is("in the city", x.back(3, true), -3);
        due.is("1", x.back(1, true), 0);
        due.is("1 again", x.back(1, true), 1);
        due.is("9", x.back(2, true), 0);
        due.is("bits", x.told(4), 6);
        due.is("not any more", x.back(1, false), 1);
        due.is("bits then", x.told(4), 4);
        due.is("nobody -1", x.back(-1, true), -1);
        due.is("nobody 4", x.back(4, true), -1);
    }

    private static void purse() {
        TurnBack x = new TurnBack();
        due.is("500", x.purse(0), 500);
        due.is("0", x.purse(99999), 0);
        due.is("-1", x.purse(-1), -2);
        due.is("100000", x.purse(100000), -2);
        due.is("stands", x.told(2), 99999);
    }

    private static void row() {
        TurnBack x = Houses.of(0, 6, 3, 6);
        due.is("part 0", x.row(0, 0, 9), 0);
        due.is("part 3", x.row(0, 3, 1), 0);
        due.is("part 0 again", x.row(0, 0, 2), 9);
        due.is("part 3 again", x.row(0, 3, 0), 1);
        due.is("of the other", x.row(2, 0, 5), 0);
        due.is("part -1", x.row(0, -1, 0), -1);
        due.is("part 4", x.row(0, 4, 0), -1);
        due.is("nobody -1", x.row(-1, 0, 0), -1);
        due.is("nobody 3", x.row(3, 0, 0), -1);
        due.is("NONE ahead of BAD", x.row(0, 4, 10), -1);
        due.is("n -1", x.row(0, 0, -1), -2);
        due.is("n 10", x.row(0, 0, 10), -2);
        due.is("a poet has none", x.row(1, 0, 0), -3);
        due.is("NONE ahead of STATE", x.row(1, 4, 0), -1);
        due.is("BAD ahead of STATE", x.row(1, 0, 10), -2);
        due.is("stands", x.row(0, 0, 0), 2);
    }
}
