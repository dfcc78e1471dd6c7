/** Objects as the tests need them. */
final class Houses {
    private Houses() {
    }

    /** Feeds a text: what the last sign was answered. */
    static int feed(TurnBack x, String text) {
        int last = 0;
        for (int i = 0; i < text.length(); i++) {
            last = x.feed(text.charAt(i));
        }
        return last;
    }

    static int season(TurnBack x, String text) {
        feed(x, text);
        return x.season();
    }

    /** One traveller of each kind given, v 0, worth 0, at a place. */
    static TurnBack of(int place, int... kinds) {
        TurnBack x = new TurnBack();
        for (int kind : kinds) {
            x.traveller(kind, 0, 0, place);
        }
        return x;
    }

    static TurnBack of(String season, int place, int... kinds) {
        TurnBack x = of(place, kinds);
        season(x, season);
        return x;
    }

    static void pass(TurnBack x, int days) {
        for (int gone = 0; gone < days; gone += 60) {
            x.pass(Math.min(60, days - gone));
        }
    }
}
