/** A house with a bar on the road to a city: it pays those who turn back. */
public final class TurnBack {
    public static final int NONE = -1, BAD = -2, STATE = -3, FULL = -4;
    public static final long NO = Long.MIN_VALUE;

    // What is answered where nothing fits, and where -1 could be an offer.
    private static final int UNFOUND = -5, NO_SUCH = -10001;
    private static final int NOTHING = -11, CAST = -12, PLACE = -13, SIZE = -14;

    private static final int MOST_TRAVELLERS = 6, KINDS = 7, MOST_WORTH = 99;
    private static final int BRIDE = 1, BEGGAR = 2, POET = 3, SOLDIER = 4, CHILD = 5, TOLD = 6;
    private static final int HOME = 0, BAR = 5, CITY = 10;
    private static final int ROW = 4, MOST_PURSE = 99999, LAST_DAY = 9999, MOST_DAYS = 60;
    private static final int MOST_SIGNS = 100, MOST_CLAUSES = 10, MOST_SEASONS = 6, MOST_NESTED = 4;
    private static final int PAY_UNTOLD = 10, MOST_PAY = 49, MOST_ODDS_PAY = 20, MOST_PAY_DAYS = 20;
    private static final int MOST_SEEN = 5, MOST_SEEN_DAYS = 12, MOST_PLAN = 10, MOST_BOOK = 8;
    private static final int TAPES = 6, MOST_ITEMS = 60, BYTES = 0, SHORTS = 1, INTS = 2, LONGS = 3, BOOLEANS = 4;

    private final Road road = new Road();
    // Whatever is only asked happens on this road.
    private final Road trial = new Road();
    private final Road imageRoad = new Road();
    private final Notes notes = new Notes();
    private final Notes imageNotes = new Notes();
    private boolean hasImage;
    private final SeasonReader reader = new SeasonReader();
    private int seasonCount;
    private final Acts acts = new Acts();
    private final Tape[] tapes = new Tape[TAPES];

    public TurnBack() {
        for (int i = 0; i < TAPES; i++) {
            tapes[i] = new Tape();
        }
    }

    // ---- travellers, seasons

    public int traveller(int kind, int v, int worth, int place) {
        if (!within(kind, KINDS - 1) || !within(place, CITY)) {
            return NONE;
        }
        if (!within(v, 9) || !within(worth, MOST_WORTH)) {
            return BAD;
        }
        return road.welcome(kind, v, worth, place);
    }

    public int of(int traveller, int what) {
        if (!isThere(traveller)) {
            return NO_SUCH;
        }
        switch (what) {
            case 0: return road.kind[traveller];
            case 1: return road.v[traveller];
            case 2: return road.worth[traveller];
            case 3: return road.place[traveller];
            case 4: return road.back[traveller] ? 1 : 0;
            case 5: return road.turned[traveller];
            case 6: return road.offerTo(traveller);
            case 7: return daysToCity(traveller);
            default: return NO_SUCH;
        }
    }

    public int set(int traveller, int what, int n) {
        if (!isThere(traveller) || !within(what, 1)) {
            return NONE;
        }
        if (!within(n, what == 0 ? MOST_WORTH : CITY)) {
            return BAD;
        }
        int was = what == 0 ? road.worth[traveller] : road.place[traveller];
        if (what == 0) {
            road.worth[traveller] = n;
        } else {
            road.put(traveller, n);
        }
        return was;
    }

    public int back(int traveller, boolean is) {
        if (!isThere(traveller)) {
            return NONE;
        }
        if (!road.isUnderWay(traveller)) {
            return STATE;
        }
        int was = road.back[traveller] ? 1 : 0;
        road.back[traveller] = is;
        return was;
    }

    public int purse(int n) {
        if (!within(n, MOST_PURSE)) {
            return BAD;
        }
        int was = road.purse;
        road.purse = n;
        return was;
    }

    public int row(int traveller, int part, int n) {
        if (!isThere(traveller) || !within(part, ROW - 1)) {
            return NONE;
        }
        if (!within(n, 9)) {
            return BAD;
        }
        if (road.kind[traveller] != TOLD) {
            return STATE;
        }
        int was = road.rows[traveller][part];
        road.rows[traveller][part] = n;
        return was;
    }

    public int feed(int sign) {
        if (!within(sign, 127)) {
            return BAD;
        }
        return reader.take(sign);
    }

    public int season() {
        if (seasonCount >= MOST_SEASONS) {
            return FULL;
        }
        int fault = reader.draftSeason();
        if (fault >= 0) {
            return -10 - fault;
        }
        road.season = reader.handOver();
        seasonCount++;
        return seasonCount - 1;
    }

    public int told(int what) {
        switch (what) {
            case 0: return road.day;
            case 1: return road.payNow();
            case 2: return road.purse;
            case 3: return road.bitsAt(CITY);
            case 4: return road.bitsBack();
            case 5: return road.bitsAt(BAR);
            default: return NONE;
        }
    }

    // ---- days

    public int pass(int n) {
        if (!within(n, MOST_DAYS)) {
            return BAD;
        }
        if (road.day + n > LAST_DAY) {
            return STATE;
        }
        road.goOn(n);
        return road.day;
    }

    public int on(int n, int what) {
        boolean ofPlace = what >= 10 && isThere(what - 10);
        boolean ofTurned = what >= 20 && isThere(what - 20);
        if (!within(what, 1) && !ofPlace && !ofTurned) {
            return NONE;
        }
        if (!within(n, MOST_DAYS)) {
            return BAD;
        }
        trial.copy(road);
        trial.goOn(n);
        if (ofPlace) {
            return trial.place[what - 10];
        }
        if (ofTurned) {
            return trial.turned[what - 20];
        }
        return what == 0 ? trial.purse : trial.bitsAt(CITY);
    }

    /** GETS: the fewest days behind which one is in the city. */
    private int daysToCity(int traveller) {
        trial.copy(road);
        for (int days = 0; days <= MOST_DAYS; days++) {
            if (trial.place[traveller] == CITY) {
                return days;
            }
            trial.goOn(1);
        }
        return UNFOUND;
    }

    // ---- paying

    public int pays(int n, int what) {
        if (!within(what, 3)) {
            return NONE;
        }
        if (n < 1 || n > MOST_PAY_DAYS) {
            return BAD;
        }
        switch (what) {
            case 0: return cheapestPay(n);
            case 1: return inCityBy(cheapestPay(n), n);
            case 2: return richestPay(n);
            default: return smallestBag(n);
        }
    }

    private int cheapestPay(int days) {
        int cheapest = 0;
        int fewest = MOST_TRAVELLERS + 1;
        for (int pay = 0; pay <= MOST_PAY; pay++) {
            int arrived = inCityBy(pay, days);
            if (arrived < fewest) {
                fewest = arrived;
                cheapest = pay;
            }
        }
        return cheapest;
    }

    private int inCityBy(int pay, int days) {
        trial.copy(road);
        trial.fixedPay = pay;
        trial.goOn(days);
        return Integer.bitCount(trial.bitsAt(CITY));
    }

    private int richestPay(int days) {
        for (int pay = MOST_PAY; pay >= 0; pay--) {
            trial.copy(road);
            trial.fixedPay = pay;
            trial.goOn(days);
            if (trial.purse >= 1) {
                return pay;
            }
        }
        return UNFOUND;
    }

    private int smallestBag(int days) {
        int smallest = UNFOUND;
        int fewest = MOST_TRAVELLERS + 1;
        for (int bag = 0; bag < 1 << road.count; bag++) {
            // Bags come by their bits, so that the first of a size is the least.
            if (Integer.bitCount(bag) < fewest && keepsAllAway(bag, days)) {
                fewest = Integer.bitCount(bag);
                smallest = bag;
            }
        }
        return smallest;
    }

    private boolean keepsAllAway(int bag, int days) {
        trial.copy(road);
        for (int t = 0; t < trial.count; t++) {
            if ((bag >> t & 1) == 1) {
                trial.worth[t] = 0;
            }
        }
        trial.goOn(days);
        return trial.bitsAt(CITY) == 0;
    }

    // ---- seen, odds

    public int see(int traveller, int n, int place) {
        if (traveller == -1) {
            return notes.seen.empty();
        }
        if (!isThere(traveller) || !within(place, CITY)) {
            return NONE;
        }
        if (!within(n, MOST_SEEN_DAYS)) {
            return BAD;
        }
        return notes.seen.add(traveller, n, place);
    }

    public int can(int traveller, int which, int what) {
        if (!isThere(traveller) || !within(which, 1) || !within(what, 1)) {
            return NONE;
        }
        int most = which == 0 ? MOST_WORTH : 9;
        int fitting = 0;
        int least = UNFOUND;
        for (int n = most; n >= 0; n--) {
            trial.copy(road);
            if (which == 0) {
                trial.worth[traveller] = n;
            } else {
                trial.v[traveller] = n;
            }
            if (seenComesTrue()) {
                fitting++;
                least = n;
            }
        }
        return what == 0 ? fitting : least;
    }

    public int places(int traveller) {
        if (!isThere(traveller)) {
            return NONE;
        }
        int bits = 0;
        for (int place = HOME; place <= CITY; place++) {
            trial.copy(road);
            trial.put(traveller, place);
            if (seenComesTrue()) {
                bits |= 1 << place;
            }
        }
        return bits;
    }

    /** Whether the trial, from how it stands, goes through all that is seen. */
    private boolean seenComesTrue() {
        int last = notes.lastSeenDay();
        for (int day = 0; day <= last; day++) {
            if (notes.seenElsewhere(trial, day)) {
                return false;
            }
            trial.goOn(1);
        }
        return true;
    }

    public long odds(int traveller, int n, int part) {
        if (!isThere(traveller) || !within(n, MOST_DAYS) || !within(part, 1)) {
            return NO;
        }
        int arrived = 0;
        for (int pay = 0; pay <= MOST_ODDS_PAY; pay++) {
            trial.copy(road);
            trial.fixedPay = pay;
            trial.goOn(n);
            if (trial.place[traveller] == CITY) {
                arrived++;
            }
        }
        return partOf(arrived, MOST_ODDS_PAY + 1, part);
    }

    public long mean(int n, int part) {
        if (!within(n, MOST_DAYS) || !within(part, 1) || road.count == 0) {
            return NO;
        }
        trial.copy(road);
        trial.goOn(n);
        int together = 0;
        for (int t = 0; t < trial.count; t++) {
            together += trial.turned[t];
        }
        return partOf(together, trial.count, part);
    }

    /** A part of a fraction in lowest terms. */
    private static long partOf(int above, int below, int part) {
        int common = 1;
        for (int divisor = 2; divisor <= below; divisor++) {
            if (above % divisor == 0 && below % divisor == 0) {
                common = divisor;
            }
        }
        return (part == 0 ? above : below) / common;
    }

    // ---- plans, books

    public int plan(int what, int traveller) {
        if (what == -1) {
            return notes.plan.empty();
        }
        if (!within(what, 3) || (what != 0 && !isThere(traveller))) {
            return NONE;
        }
        return notes.plan.add(what, traveller, 0);
    }

    public int ends(int what) {
        if (!within(what, 1)) {
            return NONE;
        }
        trial.copy(road);
        for (int i = 0; i < notes.plan.count; i++) {
            followPlan(notes.plan.first[i], notes.plan.second[i]);
        }
        return what == 0 ? trial.purse : trial.bitsAt(CITY);
    }

    private void followPlan(int what, int traveller) {
        if (what == 0) {
            trial.goOn(1);
        } else if (!isThere(traveller)) {
            return;
        } else if (what == 1) {
            trial.put(traveller, HOME);
        } else if (what == 2) {
            trial.esteem(traveller, 10);
        } else if (trial.isUnderWay(traveller)) {
            trial.back[traveller] = true;
        }
    }

    public int book(int traveller, int place) {
        if (traveller == -1) {
            return notes.book.empty();
        }
        if (!isThere(traveller) || !within(place, CITY)) {
            return NONE;
        }
        return notes.book.add(traveller, place, 0);
    }

    public int looked() {
        for (int i = 0; i < notes.book.count; i++) {
            if (!road.isAt(notes.book.first[i], notes.book.second[i])) {
                return i;
            }
        }
        return UNFOUND;
    }

    // ---- judging, the image, acts, tapes

    public int judge(int tape, int i) {
        if (!within(tape, TAPES - 1)) {
            return NONE;
        }
        Tape row = tapes[tape];
        if (!row.isBlank() && row.sort != BOOLEANS) {
            return CAST;
        }
        for (int t = 0; t < road.count; t++) {
            // No sum of i and t, as i may be the greatest int.
            if (i < 0 || i >= row.length - t) {
                return 100 + t;
            }
            if (row.items[i + t] != (road.back[t] ? 1 : 0)) {
                return t;
            }
        }
        return UNFOUND;
    }

    public int image() {
        imageRoad.copy(road);
        imageNotes.copy(notes);
        hasImage = true;
        return road.count;
    }

    public int undo() {
        if (!hasImage) {
            return STATE;
        }
        road.copy(imageRoad);
        notes.copy(imageNotes);
        return road.count;
    }

    public int act(int traveller, int act, int x) {
        acts.forget();
        if (!isThere(traveller) || !within(act, 2)) {
            return 0;
        }
        return acts.begin(traveller, road.v[traveller], road.kind[traveller], act, x);
    }

    public int trace(int i) {
        if (!within(i, acts.kept() - 1)) {
            return NONE;
        }
        return acts.trace[i];
    }

    public int taken(int traveller, int k) {
        if (!within(k, KINDS - 1)) {
            return BAD;
        }
        if (!isThere(traveller)) {
            return NOTHING;
        }
        int kind = road.kind[traveller];
        return Acts.isUnder(kind, k) ? kind : CAST;
    }

    public int count(int what) {
        switch (what) {
            case 0: return road.count;
            case 1: return seasonCount;
            case 2: return notes.seen.count;
            case 3: return notes.plan.count;
            case 4: return notes.book.count;
            case 5: return reader.length;
            case 6: return acts.ran;
            default: return BAD;
        }
    }

    public int tape(int tape, int sort, int n) {
        if (!within(tape, TAPES - 1)) {
            return NONE;
        }
        if (sort == Tape.BLANK) {
            tapes[tape].become(Tape.BLANK, 0);
            return 1;
        }
        if (!within(sort, BOOLEANS) || n > MOST_ITEMS) {
            return BAD;
        }
        if (n < 0) {
            return SIZE;
        }
        tapes[tape].become(sort, n);
        return 1;
    }

    public int item(int tape, int i, long v) {
        if (!within(tape, TAPES - 1)) {
            return NONE;
        }
        Tape row = tapes[tape];
        if (row.isBlank()) {
            return NOTHING;
        }
        if (!within(i, row.length - 1)) {
            return PLACE;
        }
        row.items[i] = row.cut(v);
        return 1;
    }

    public long read(int tape, int i) {
        if (!within(tape, TAPES - 1) || !within(i, tapes[tape].length - 1)) {
            return NO;
        }
        return tapes[tape].items[i];
    }

    public int shift(int tape, int i, int other, int j, int n) {
        if (!within(tape, TAPES - 1) || !within(other, TAPES - 1)) {
            return NONE;
        }
        Tape from = tapes[tape];
        Tape to = tapes[other];
        if (from.isBlank() || to.isBlank()) {
            return NOTHING;
        }
        if (from.sort != to.sort) {
            return CAST;
        }
        if (!from.reaches(i, n) || !to.reaches(j, n)) {
            return PLACE;
        }
        System.arraycopy(from.items, i, to.items, j, n);
        return n;
    }

    private boolean isThere(int traveller) {
        return within(traveller, road.count - 1);
    }

    private static boolean within(int n, int most) {
        return n >= 0 && n <= most;
    }

    /** Travellers, purse, day and the season that holds: all that a day changes or looks at. */
    private static final class Road {
        final int[] kind = new int[MOST_TRAVELLERS];
        final int[] v = new int[MOST_TRAVELLERS];
        final int[] worth = new int[MOST_TRAVELLERS];
        final int[] place = new int[MOST_TRAVELLERS];
        final int[] turned = new int[MOST_TRAVELLERS];
        final boolean[] back = new boolean[MOST_TRAVELLERS];
        final int[][] rows = new int[MOST_TRAVELLERS][ROW];
        int count;
        int purse = 500;
        int day;
        // null: no season holds.
        Season season;
        // Below 0: the season tells what is paid.
        int fixedPay = -1;

        void copy(Road other) {
            count = other.count;
            purse = other.purse;
            day = other.day;
            season = other.season;
            fixedPay = other.fixedPay;
            for (int t = 0; t < count; t++) {
                kind[t] = other.kind[t];
                v[t] = other.v[t];
                worth[t] = other.worth[t];
                place[t] = other.place[t];
                turned[t] = other.turned[t];
                back[t] = other.back[t];
                for (int part = 0; part < ROW; part++) {
                    rows[t][part] = other.rows[t][part];
                }
            }
        }

        /** The number of the one who comes. */
        int welcome(int newKind, int newV, int newWorth, int newPlace) {
            int t = count;
            if (t >= MOST_TRAVELLERS) {
                return FULL;
            }
            count++;
            kind[t] = newKind;
            v[t] = newV;
            worth[t] = newWorth;
            put(t, newPlace);
            // One whom undo() sent away may have stood here.
            turned[t] = 0;
            for (int part = 0; part < ROW; part++) {
                rows[t][part] = 0;
            }
            return t;
        }

        void put(int t, int newPlace) {
            place[t] = newPlace;
            back[t] = false;
        }

        void esteem(int t, int more) {
            worth[t] = Math.min(worth[t] + more, MOST_WORTH);
        }

        boolean isAt(int t, int there) {
            return within(t, count - 1) && place[t] == there;
        }

        boolean isUnderWay(int t) {
            return place[t] != HOME && place[t] != CITY;
        }

        int bitsAt(int there) {
            int bits = 0;
            for (int t = 0; t < count; t++) {
                if (place[t] == there) {
                    bits |= 1 << t;
                }
            }
            return bits;
        }

        int bitsBack() {
            int bits = 0;
            for (int t = 0; t < count; t++) {
                if (back[t]) {
                    bits |= 1 << t;
                }
            }
            return bits;
        }

        void goOn(int days) {
            for (int d = 0; d < days; d++) {
                for (int t = 0; t < count; t++) {
                    walkOn(t);
                }
                day++;
            }
        }

        private void walkOn(int t) {
            if (place[t] == CITY) {
                return;
            }
            place[t] += back[t] ? -1 : 1;
            if (place[t] == HOME) {
                back[t] = false;
            }
            if (place[t] != BAR || back[t]) {
                return;
            }
            int offer = offerTo(t);
            if (offer > 0 && offer <= purse && offer >= worth[t]) {
                purse -= offer;
                back[t] = true;
                turned[t]++;
                esteem(t, 3);
            }
        }

        int offerTo(int t) {
            int sum = payNow();
            if (season != null) {
                sum += season.extraFor(this, t);
            }
            switch (kind[t]) {
                case BRIDE: return sum + v[t];
                case SOLDIER: return (sum + v[t]) * (anotherAtBar(t) ? 2 : 1);
                case BEGGAR: return sum / 2;
                case CHILD: return sum / 2 + (day % 7 == 0 ? 5 : 0);
                case POET: return sum - Math.min(turned[t], 10);
                case TOLD: return sum - Math.min(turned[t], 10) + rows[t][day % ROW];
                default: return sum;
            }
        }

        int payNow() {
            if (fixedPay >= 0) {
                return fixedPay;
            }
            return season == null ? PAY_UNTOLD : season.pay;
        }

        private boolean anotherAtBar(int t) {
            return (bitsAt(BAR) & ~(1 << t)) != 0;
        }

        int valueOf(int letter, int t) {
            switch (letter) {
                case 'p': return t;
                case 'k': return kind[t];
                case 'v': return v[t];
                case 'w': return worth[t] / 10;
                case 't': return turned[t] % 10;
                default: return day % 10;
            }
        }
    }

    /** Clauses as they were read; what stands behind more and less is kept in postfix order. */
    private static final class Season {
        // A sign, a relation and a number in one: a test, an operator, or what a clause adds or takes.
        private final int[] code = new int[MOST_SIGNS];
        private int length;
        int pay;

        void clear() {
            length = 0;
            pay = PAY_UNTOLD;
        }

        void add(int sign, int relation, int number) {
            if (length < MOST_SIGNS) {
                code[length] = sign << 16 | relation << 8 | number;
                length++;
            }
        }

        int extraFor(Road road, int t) {
            int sum = 0;
            // Values that wait are bits, the newest lowest: no more than two at each of the five depths.
            int open = 0;
            for (int i = 0; i < length; i++) {
                int sign = code[i] >> 16;
                int number = code[i] & 255;
                switch (sign) {
                    case '!': open ^= 1; break;
                    case '&': open = (open >> 1) & (open | ~1); break;
                    case '|': open = (open >> 1) | (open & 1); break;
                    case 'm': sum += (open & 1) * number; open >>= 1; break;
                    case 'l': sum -= (open & 1) * number; open >>= 1; break;
                    default: open = (open << 1) | compared(road.valueOf(sign, t), code[i] >> 8 & 255, number);
                }
            }
            return sum;
        }

        private static int compared(int value, int relation, int number) {
            switch (relation) {
                case '<': return value < number ? 1 : 0;
                case '=': return value == number ? 1 : 0;
                default: return value > number ? 1 : 0;
            }
        }
    }

    /**
     * Keeps the text and reads it from left to right. Each byte tells by itself what it begins,
     * so that the place where the reading stops is the fault.
     */
    private static final class SeasonReader {
        private final byte[] text = new byte[MOST_SIGNS];
        private Season draft = new Season();
        private int at;
        int length;

        int take(int sign) {
            if (length >= MOST_SIGNS) {
                return FULL;
            }
            text[length] = (byte) sign;
            length++;
            return length;
        }

        /** Makes a draft of the text, which is empty then: the fault, or -1. */
        int draftSeason() {
            draft.clear();
            at = 0;
            boolean whole = false;
            for (int c = 1; c <= MOST_CLAUSES; c++) {
                if (!clause()) {
                    break;
                }
                whole = at == length;
                if (whole || c == MOST_CLAUSES || !passes(';')) {
                    break;
                }
            }
            length = 0;
            return whole ? -1 : at;
        }

        Season handOver() {
            Season done = draft;
            draft = new Season();
            return done;
        }

        private boolean clause() {
            int sign = peek();
            if (sign != 'm' && sign != 'l') {
                return payClause();
            }
            if (!word(sign == 'm' ? "more " : "less ")) {
                return false;
            }
            int n = number();
            if (n < 0 || !passes(' ') || !expression(0)) {
                return false;
            }
            draft.add(sign, 0, n);
            return true;
        }

        private boolean payClause() {
            if (!word("pay ")) {
                return false;
            }
            int n = number();
            if (n < 0) {
                return false;
            }
            draft.pay = n;
            return true;
        }

        /** Factors with & and | between: an & is closed at its second factor, an | only once no & goes on. */
        private boolean expression(int depth) {
            boolean and = false;
            boolean or = false;
            for (int i = 0; i < MOST_SIGNS; i++) {
                if (!factor(depth)) {
                    return false;
                }
                if (and) {
                    draft.add('&', 0, 0);
                }
                and = passes('&');
                if (!and) {
                    if (or) {
                        draft.add('|', 0, 0);
                    }
                    or = passes('|');
                    if (!or) {
                        return true;
                    }
                }
            }
            return false;
        }

        private boolean factor(int depth) {
            int sign = peek();
            if (sign != '!' && sign != '(') {
                return test();
            }
            if (depth >= MOST_NESTED) {
                return false;
            }
            at++;
            if (sign == '(') {
                return expression(depth + 1) && passes(')');
            }
            if (!factor(depth + 1)) {
                return false;
            }
            draft.add('!', 0, 0);
            return true;
        }

        private boolean test() {
            int letter = peek();
            if (!isOneOf(letter, "pkvwtd")) {
                return false;
            }
            at++;
            int relation = peek();
            if (!isOneOf(relation, "<=>")) {
                return false;
            }
            at++;
            int n = number();
            if (n < 0) {
                return false;
            }
            draft.add(letter, relation, n);
            return true;
        }

        /** A number of one or two digits, or -1. */
        private int number() {
            int n = -1;
            for (int i = 0; i < 2; i++) {
                int sign = peek();
                if (sign < '0' || sign > '9') {
                    return n;
                }
                n = Math.max(n, 0) * 10 + sign - '0';
                at++;
            }
            return n;
        }

        private boolean word(String word) {
            for (int i = 0; i < word.length(); i++) {
                if (!passes(word.charAt(i))) {
                    return false;
                }
            }
            return true;
        }

        private boolean passes(char sign) {
            if (peek() != sign) {
                return false;
            }
            at++;
            return true;
        }

        /** The next byte, or -1 at the end. */
        private int peek() {
            return at < length ? text[at] : -1;
        }

        private static boolean isOneOf(int sign, String signs) {
            for (int i = 0; i < signs.length(); i++) {
                if (signs.charAt(i) == sign) {
                    return true;
                }
            }
            return false;
        }
    }

    /** Rows told by hand, of up to three numbers. */
    private static final class Rows {
        final int[] first;
        final int[] second;
        final int[] third;
        int count;

        Rows(int most) {
            int size = Math.max(most, 0);
            first = new int[size];
            second = new int[size];
            third = new int[size];
        }

        int empty() {
            count = 0;
            return count;
        }

        int add(int a, int b, int c) {
            if (count >= first.length) {
                return FULL;
            }
            first[count] = a;
            second[count] = b;
            third[count] = c;
            count++;
            return count;
        }

        void copy(Rows other) {
            count = Math.min(other.count, first.length);
            for (int i = 0; i < count; i++) {
                first[i] = other.first[i];
                second[i] = other.second[i];
                third[i] = other.third[i];
            }
        }
    }

    private static final class Notes {
        // Traveller, days, place.
        final Rows seen = new Rows(MOST_SEEN);
        // What goes, traveller.
        final Rows plan = new Rows(MOST_PLAN);
        // Traveller, place.
        final Rows book = new Rows(MOST_BOOK);

        void copy(Notes other) {
            seen.copy(other.seen);
            plan.copy(other.plan);
            book.copy(other.book);
        }

        int lastSeenDay() {
            int last = -1;
            for (int i = 0; i < seen.count; i++) {
                last = Math.max(last, seen.second[i]);
            }
            return last;
        }

        boolean seenElsewhere(Road road, int days) {
            for (int i = 0; i < seen.count; i++) {
                if (seen.second[i] == days && !road.isAt(seen.first[i], seen.third[i])) {
                    return true;
                }
            }
            return false;
        }
    }

    /** One's act, run body by body. */
    private static final class Acts {
        private static final int WALKS = 0, SIGHS = 1, TELLS = 2, MOST_KEPT = 20, MOST_DEPTH = 20;
        private static final int[] ABOVE = {-1, 0, 0, 0, BRIDE, BEGGAR, POET};
        // A kind's bodies of walks, sighs, tells; 0: it has none.
        private static final int[] BODIES = {
            10, 11, 12,
            0, 20, 0,
            30, 0, 0,
            0, 0, 40,
            50, 51, 0,
            0, 0, 60,
            71, 70, 0
        };

        final int[] trace = new int[MOST_KEPT];
        int ran;
        private int number;
        private int v;
        private int kind;

        static boolean isUnder(int kind, int top) {
            int k = kind;
            for (int up = 0; up < KINDS && within(k, KINDS - 1); up++) {
                if (k == top) {
                    return true;
                }
                k = ABOVE[k];
            }
            return false;
        }

        void forget() {
            ran = 0;
        }

        int kept() {
            return Math.min(ran, MOST_KEPT);
        }

        int begin(int itsNumber, int itsV, int itsKind, int act, int x) {
            number = itsNumber;
            v = itsV;
            kind = itsKind;
            return own(act, x, 0);
        }

        private int own(int act, int x, int depth) {
            return runFrom(kind, act, x, depth);
        }

        private int above(int bodysKind, int act, int x, int depth) {
            return runFrom(ABOVE[bodysKind], act, x, depth);
        }

        /** The body of a kind, or of the next above that has one. */
        private int runFrom(int from, int act, int x, int depth) {
            int k = from;
            for (int up = 0; up < KINDS && within(k, KINDS - 1); up++) {
                int body = BODIES[k * 3 + act];
                if (body != 0) {
                    return depth < MOST_DEPTH ? run(body, x, depth + 1) : 0;
                }
                k = ABOVE[k];
            }
            return 0;
        }

        private int run(int body, int x, int depth) {
            if (ran < MOST_KEPT) {
                trace[ran] = body;
            }
            ran++;
            switch (body) {
                case 10: return x + number;
                case 11: return own(WALKS, x, depth) - v;
                case 12: return own(SIGHS, x, depth) * 2;
                case 20: return above(BRIDE, SIGHS, x, depth) ^ 6;
                case 30: return above(BEGGAR, WALKS, x * 3, depth);
                case 40: return above(POET, TELLS, x, depth) + own(SIGHS, 1, depth);
                case 50: return -above(SOLDIER, WALKS, x, depth);
                case 51: return above(SOLDIER, SIGHS, x + 1, depth);
                case 60: return above(CHILD, TELLS, x - number, depth);
                case 70: return above(TOLD, SIGHS, x, depth) + above(TOLD, WALKS, 2, depth);
                case 71: return above(TOLD, WALKS, x, depth) ^ v;
                default: return 0;
            }
        }
    }

    /** A row of items of one sort, or nothing. */
    private static final class Tape {
        static final int BLANK = -1;

        int sort = BLANK;
        int length;
        final long[] items = new long[MOST_ITEMS];

        boolean isBlank() {
            return sort == BLANK;
        }

        void become(int newSort, int n) {
            sort = newSort;
            length = Math.min(Math.max(n, 0), MOST_ITEMS);
            for (int i = 0; i < length; i++) {
                items[i] = 0;
            }
        }

        /** As much of v as an item holds. */
        long cut(long n) {
            switch (sort) {
                case BYTES: return (byte) n;
                case SHORTS: return (short) n;
                case INTS: return (int) n;
                case LONGS: return n;
                default: return n != 0 ? 1 : 0;
            }
        }

        boolean reaches(int from, int n) {
            return from >= 0 && n >= 0 && n <= length - from;
        }
    }
}
