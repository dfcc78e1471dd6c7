/** Promises 19 to 25: the plan, where it ends, the book, judging, the image. */
public final class PlansTest {
    private static final Due due = new Due("PlansTest");

    public static void main(String[] args) {
        plan();
        ends();
        book();
        looked();
        judge();
        judgeWithoutTravellers();
        image();
        imageKeepsAll();
        imageLeavesTheRest();
        due.end();
    }

    private static void plan() {
        TurnBack x = Houses.of(0, 0, 0);
        due.is("a day by nobody", x.plan(0, -7), 1);
        due.is("home", x.plan(1, 1), 2);
        due.is("worth", x.plan(2, 0), 3);
        due.is("back", x.plan(3, 1), 4);
        due.is("what -2", x.plan(-2, 0), -1);
        due.is("what 4", x.plan(4, 0), -1);
        for (int what = 1; what <= 3; what++) {
            due.is("nobody -1", x.plan(what, -1), -1);
            due.is("nobody 2", x.plan(what, 2), -1);
        }
        for (int i = 5; i <= 10; i++) {
            due.is("row " + i, x.plan(0, 0), i);
        }
        due.is("full", x.plan(0, 0), -4);
        due.is("NONE ahead of FULL", x.plan(4, 0), -1);
        due.is("nobody ahead of FULL", x.plan(1, 2), -1);
        due.is("ten", x.count(3), 10);
        due.is("empty", x.plan(-1, 99), 0);
        due.is("none", x.count(3), 0);
        due.is("anew", x.plan(0, 99), 1);
    }

    private static void ends() {
        TurnBack x = new TurnBack();
        x.traveller(0, 0, 1, 4);
        x.traveller(0, 0, 0, 9);
        due.is("no plan: purse", x.ends(0), 500);
        due.is("no plan: city", x.ends(1), 0);
        x.plan(0, 0);
        due.is("a day: purse", x.ends(0), 490);
        due.is("a day: city", x.ends(1), 2);
        x.plan(1, 1);
        due.is("home from the city", x.ends(1), 0);
        x.plan(-1, 0);
        x.plan(2, 0);
        x.plan(0, 0);
        due.is("worth 11", x.ends(0), 500);
        due.is("worth 11: city", x.ends(1), 2);
        x.plan(-1, 0);
        x.plan(0, 0);
        x.plan(2, 0);
        due.is("in its order", x.ends(0), 490);
        x.plan(-1, 0);
        x.plan(3, 1);
        x.plan(0, 0);
        due.is("back, not on", x.ends(1), 0);
        x.plan(-1, 0);
        x.plan(3, 0);
        x.plan(1, 0);
        for (int i = 0; i < 5; i++) {
            x.plan(0, 0);
        }
        due.is("home is not back: to the bar in 5 days", x.ends(0), 490);
        x.plan(-1, 0);
        x.plan(1, 0);
        for (int i = 0; i < 4; i++) {
            x.plan(0, 0);
        }
        due.is("and not in 4", x.ends(0), 500);
        x.plan(-1, 0);
        x.plan(1, 0);
        x.plan(3, 0);
        for (int i = 0; i < 5; i++) {
            x.plan(0, 0);
        }
        due.is("no one is back at home", x.ends(0), 490);
        x.plan(-1, 0);
        x.plan(0, 0);
        x.plan(3, 1);
        x.plan(0, 0);
        due.is("nor in the city", x.ends(1), 2);
        due.is("nothing -1", x.ends(-1), -1);
        due.is("nothing 2", x.ends(2), -1);
        due.is("changes nothing: place", x.of(1, 3), 9);
        due.is("changes nothing: worth", x.of(0, 2), 1);
        due.is("changes nothing: day", x.told(0), 0);
        due.is("changes nothing: the plan", x.count(3), 3);
        TurnBack most = new TurnBack();
        most.traveller(0, 0, 95, 4);
        Houses.season(most, "pay 99");
        most.plan(2, 0);
        most.plan(0, 0);
        due.is("worth 99 at most", most.ends(0), 401);
        Houses.season(most, "pay 98");
        due.is("and no less", most.ends(0), 500);
        TurnBack ten = Houses.of(4, 0);
        ten.plan(2, 0);
        ten.plan(0, 0);
        due.is("10 more", ten.ends(0), 490);
        ten.set(0, 0, 1);
        due.is("and no less than 10", ten.ends(0), 500);
    }

    private static void book() {
        TurnBack x = Houses.of(0, 0, 0);
        due.is("nobody -2", x.book(-2, 0), -1);
        due.is("nobody 2", x.book(2, 0), -1);
        due.is("place -1", x.book(0, -1), -1);
        due.is("place 11", x.book(0, 11), -1);
        for (int i = 1; i <= 8; i++) {
            due.is("row " + i, x.book(i % 2, 10 * (i % 2)), i);
        }
        due.is("full", x.book(0, 0), -4);
        due.is("NONE ahead of FULL", x.book(0, 11), -1);
        due.is("eight", x.count(4), 8);
        due.is("empty", x.book(-1, 99), 0);
        due.is("none", x.count(4), 0);
        due.is("anew", x.book(0, 3), 1);
    }

    private static void looked() {
        TurnBack x = Houses.of(3, 0, 0);
        due.is("nothing to look at", x.looked(), -5);
        x.book(0, 3);
        x.book(1, 3);
        due.is("all is so", x.looked(), -5);
        x.book(1, 4);
        x.book(0, 9);
        due.is("the first that is otherwise", x.looked(), 2);
        x.pass(1);
        due.is("a day later", x.looked(), 0);
        x.set(0, 1, 3);
        due.is("put back", x.looked(), 1);
        x.book(-1, 0);
        due.is("an empty book", x.looked(), -5);
    }

    private static TurnBack someBack(boolean... back) {
        TurnBack x = new TurnBack();
        for (int t = 0; t < back.length; t++) {
            x.traveller(0, 0, 0, 3);
            x.back(t, back[t]);
        }
        return x;
    }

    private static void judge() {
        TurnBack x = someBack(true, false, true);
        x.tape(1, 4, 5);
        due.is("the first", x.judge(1, 0), 0);
        x.item(1, 0, 1);
        due.is("the third", x.judge(1, 0), 2);
        x.item(1, 2, -8);
        due.is("none", x.judge(1, 0), -5);
        due.is("from place 2", x.judge(1, 2), 2);
        due.is("from place 1", x.judge(1, 1), 0);
        x.item(1, 4, 1);
        due.is("from place 2, all", x.judge(1, 2), -5);
        x.item(1, 3, 1);
        due.is("from place 3: the second", x.judge(1, 3), 1 );
        x.item(1, 4, 0);
        due.is("from place 3: it ends", x.judge(1, 3), 102);
        due.is("from place 4: the first is otherwise", x.judge(1, 4), 0);
        x.item(1, 4, 1);
        due.is("from place 4: it ends", x.judge(1, 4), 101);
        due.is("from place 5", x.judge(1, 5), 100);
        due.is("from place 6", x.judge(1, 6), 100);
        due.is("from place -1", x.judge(1, -1), 100);
        due.is("from the least place", x.judge(1, Integer.MIN_VALUE), 100);
        due.is("from the greatest place", x.judge(1, Integer.MAX_VALUE), 100);
        due.is("a tape with nothing", x.judge(0, 0), 100);
        x.tape(2, 4, 0);
        due.is("a row of none", x.judge(2, 0), 100);
        due.is("tape -1", x.judge(-1, 0), -1);
        due.is("tape 6", x.judge(6, 0), -1);
        for (int sort = 0; sort <= 3; sort++) {
            x.tape(3, sort, 5);
            due.is("sort " + sort, x.judge(3, 0), -12);
            due.is("CAST wherever the place is", x.judge(3, -1), -12);
        }
    }

    private static void judgeWithoutTravellers() {
        TurnBack x = new TurnBack();
        due.is("nothing there", x.judge(5, 0), -5);
        due.is("nothing there, no place", x.judge(5, -1), -5);
        x.tape(0, 4, 2);
        due.is("a row", x.judge(0, 0), -5);
        due.is("a row, behind it", x.judge(0, 9), -5);
        due.is("a row, ahead of it", x.judge(0, -9), -5);
        due.is("tape 6", x.judge(6, 0), -1);
        x.tape(0, 2, 2);
        due.is("a row of ints", x.judge(0, 0), -12);
    }

    private static void image() {
        TurnBack x = Houses.of(2, 0, 0);
        due.is("no image", x.undo(), -3);
        due.is("stands", x.count(0), 2);
        due.is("two", x.image(), 2);
        x.traveller(0, 0, 0, 0);
        due.is("two again", x.undo(), 2);
        due.is("the third is gone", x.of(2, 0), -10001);
        x.traveller(1, 0, 0, 0);
        due.is("another third", x.of(2, 0), 1);
        due.is("the same image again", x.undo(), 2);
        x.traveller(2, 0, 0, 0);
        due.is("three", x.image(), 3);
        x.pass(1);
        due.is("the newest image", x.undo(), 3);
        due.is("by it", x.told(0), 0);
        TurnBack empty = new TurnBack();
        due.is("of nobody", empty.image(), 0);
        empty.traveller(0, 0, 0, 0);
        due.is("nobody again", empty.undo(), 0);
        due.is("nobody is there", empty.count(0), 0);
    }

    private static void imageKeepsAll() {
        TurnBack x = new TurnBack();
        x.traveller(6, 3, 8, 4);
        x.traveller(0, 1, 50, 7);
        x.row(0, 2, 5);
        x.back(1, true);
        x.see(0, 1, 1);
        x.plan(0, 0);
        x.book(1, 7);
        x.book(0, 3);
        Houses.season(x, "pay 12");
        x.purse(300);
        x.pass(2);
        x.image();
        Houses.season(x, "pay 30");
        x.pass(9);
        x.set(0, 0, 0);
        x.set(1, 1, 0);
        x.row(0, 2, 1);
        x.row(0, 3, 1);
        x.see(1, 1, 10);
        x.plan(1, 1);
        x.plan(2, 1);
        x.book(-1, 0);
        x.purse(1);
        x.traveller(0, 0, 0, 0);
        due.is("undone", x.undo(), 2);
        long[] first = new long[6];
        long[] second = new long[6];
        for (int what = 0; what < 6; what++) {
            first[what] = x.of(0, what);
            second[what] = x.of(1, what);
        }
        due.are("the first", first, 6, 3, 11, 4, 1, 1);
        due.are("the second", second, 0, 1, 50, 5, 1, 0);
        due.is("day", x.told(0), 2);
        due.is("pay", x.told(1), 12);
        due.is("purse", x.told(2), 288);
        due.is("row", x.row(0, 2, 0), 5);
        due.is("row at another part", x.row(0, 3, 0), 0);
        due.is("seen", x.count(2), 1);
        due.is("the plan", x.count(3), 1);
        due.is("the book", x.count(4), 2);
        due.is("the book's first row", x.looked(), 0);
        due.is("what is seen", x.places(0), 1);
        // The one who comes now is not the one who was sent away.
        x.traveller(6, 0, 0, 4);
        x.image();
        x.row(2, 0, 9);
        x.pass(1);
        x.undo();
        x.row(2, 0, 9);
        x.set(2, 1, 4);
        x.undo();
        due.is("row of the third", x.row(2, 0, 0), 0);
        TurnBack slot = new TurnBack();
        slot.image();
        slot.traveller(6, 0, 0, 4);
        slot.row(0, 0, 8);
        slot.row(0, 1, 9);
        slot.pass(1);
        due.is("turned", slot.of(0, 5), 1);
        slot.undo();
        slot.traveller(6, 0, 0, 4);
        due.is("a new one has not turned", slot.of(0, 5), 0);
        due.is("and is not back", slot.of(0, 4), 0);
        due.is("and its row is 0", slot.row(0, 0, 0), 0);
        due.is("in all parts", slot.row(0, 1, 0), 0);
        imageKeepsRows();
        TurnBack none = Houses.of(0, 0);
        none.image();
        Houses.season(none, "pay 30");
        none.undo();
        due.is("no season holds again", none.told(1), 10);
    }

    private static void imageKeepsRows() {
        TurnBack x = Houses.of(4, 0, 0);
        x.set(1, 1, 8);
        x.see(1, 2, 10);
        x.see(0, 2, 4);
        x.plan(0, 0);
        x.plan(2, 0);
        x.plan(0, 0);
        x.book(1, 8);
        x.book(0, 4);
        x.book(0, 7);
        long[] were = {x.places(0), x.places(1), x.can(0, 0, 0), x.ends(0), x.ends(1), x.looked()};
        due.are("at first", were, 20, 1792, 11, 490, 2, 2);
        x.image();
        x.see(-1, 0, 0);
        x.see(0, 1, 9);
        x.see(1, 0, 3);
        x.plan(-1, 0);
        x.plan(1, 1);
        x.plan(3, 0);
        x.plan(3, 0);
        x.book(-1, 0);
        x.book(0, 3);
        x.book(1, 3);
        x.undo();
        long[] are = {x.places(0), x.places(1), x.can(0, 0, 0), x.ends(0), x.ends(1), x.looked()};
        due.are("as they were", are, were);
        x.see(-1, 0, 0);
        x.plan(-1, 0);
        x.book(-1, 0);
        x.image();
        x.see(0, 1, 9);
        x.plan(0, 0);
        x.book(0, 3);
        x.undo();
        due.is("none seen", x.count(2), 0);
        due.is("no plan", x.count(3), 0);
        due.is("no book", x.count(4), 0);
    }

    private static void imageLeavesTheRest() {
        TurnBack x = Houses.of(2, 0);
        Houses.season(x, "pay 1");
        x.image();
        due.is("second season", Houses.season(x, "pay 2"), 1);
        x.tape(0, 2, 1);
        x.item(0, 0, 77);
        x.act(0, 2, 1);
        x.feed('p');
        x.undo();
        due.is("the seasons stay", x.count(1), 2);
        due.is("the first holds", x.told(1), 1);
        due.is("the tapes stay", x.read(0, 0), 77);
        due.is("the trace stays", x.trace(0), 12);
        due.is("the text stays", x.count(5), 1);
        due.is("the third season", Houses.season(x, "ay 3"), 2);
        due.is("holds", x.told(1), 3);
        x.undo();
        due.is("the first again", x.told(1), 1);
    }
}
