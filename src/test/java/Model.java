import java.util.ArrayList;
import java.util.List;

/**
 * The document once more, written another way: travellers as objects whose kinds are Java classes,
 * seasons evaluated from their text, asking on copies. Slow, and meant to be plain.
 */
final class Model {
    private static final long NO = Long.MIN_VALUE;

    /** A KIND is a class, and a body is a method: Java itself finds which one runs. */
    static class Traveller implements Cloneable {
        int number;
        int kind;
        int v;
        int worth;
        int place;
        boolean back;
        int turned;
        int[] row = new int[4];

        int offer(World w) {
            return w.sum(this);
        }

        int walks(List<Integer> trace, int x) {
            trace.add(10);
            return x + number;
        }

        int sighs(List<Integer> trace, int x) {
            trace.add(11);
            return walks(trace, x) - v;
        }

        int tells(List<Integer> trace, int x) {
            trace.add(12);
            return sighs(trace, x) * 2;
        }

        Traveller copy() {
            try {
                Traveller copy = (Traveller) clone();
                copy.row = row.clone();
                return copy;
            } catch (CloneNotSupportedException e) {
                throw new IllegalStateException(e);
            }
        }
    }

    static class Bride extends Traveller {
        @Override int offer(World w) {
            return super.offer(w) + v;
        }

        @Override int sighs(List<Integer> trace, int x) {
            trace.add(20);
            return super.sighs(trace, x) ^ 6;
        }
    }

    static class Beggar extends Traveller {
        @Override int offer(World w) {
            int sum = super.offer(w);
            return sum < 0 ? -(-sum / 2) : sum / 2;
        }

        @Override int walks(List<Integer> trace, int x) {
            trace.add(30);
            return super.walks(trace, x * 3);
        }
    }

    static class Poet extends Traveller {
        @Override int offer(World w) {
            return super.offer(w) - (turned > 10 ? 10 : turned);
        }

        @Override int tells(List<Integer> trace, int x) {
            trace.add(40);
            return super.tells(trace, x) + sighs(trace, 1);
        }
    }

    static class Soldier extends Bride {
        @Override int offer(World w) {
            boolean other = w.travellers.stream().anyMatch(o -> o != this && o.place == 5);
            return other ? 2 * super.offer(w) : super.offer(w);
        }

        @Override int walks(List<Integer> trace, int x) {
            trace.add(50);
            return -super.walks(trace, x);
        }

        @Override int sighs(List<Integer> trace, int x) {
            trace.add(51);
            return super.sighs(trace, x + 1);
        }
    }

    static class Child extends Beggar {
        @Override int offer(World w) {
            return super.offer(w) + (w.day % 7 == 0 ? 5 : 0);
        }

        @Override int tells(List<Integer> trace, int x) {
            trace.add(60);
            return super.tells(trace, x - number);
        }
    }

    static class Told extends Poet {
        @Override int offer(World w) {
            return super.offer(w) + row[w.day % 4];
        }

        @Override int sighs(List<Integer> trace, int x) {
            trace.add(70);
            return super.sighs(trace, x) + super.walks(trace, 2);
        }

        @Override int walks(List<Integer> trace, int x) {
            trace.add(71);
            return super.walks(trace, x) ^ v;
        }
    }

    static final Class<?>[] KINDS = {Traveller.class, Bride.class, Beggar.class, Poet.class, Soldier.class, Child.class,
        Told.class};

    static Traveller made(int kind) {
        switch (kind) {
            case 0: return new Traveller();
            case 1: return new Bride();
            case 2: return new Beggar();
            case 3: return new Poet();
            case 4: return new Soldier();
            case 5: return new Child();
            default: return new Told();
        }
    }

    static final class World {
        List<Traveller> travellers = new ArrayList<>();
        int purse = 500;
        int day;
        String season = "";
        Integer fixedPay;
        List<int[]> seen = new ArrayList<>();
        List<int[]> plan = new ArrayList<>();
        List<int[]> book = new ArrayList<>();

        World copy() {
            World copy = new World();
            for (Traveller t : travellers) {
                copy.travellers.add(t.copy());
            }
            copy.purse = purse;
            copy.day = day;
            copy.season = season;
            copy.seen = new ArrayList<>(seen);
            copy.plan = new ArrayList<>(plan);
            copy.book = new ArrayList<>(book);
            return copy;
        }

        World paying(int pay) {
            fixedPay = pay;
            return this;
        }

        World after(int days) {
            for (int d = 0; d < days; d++) {
                for (Traveller t : travellers) {
                    goes(t);
                }
                day++;
            }
            return this;
        }

        private void goes(Traveller t) {
            if (t.place == 10) {
                return;
            }
            t.place = t.back ? t.place - 1 : t.place + 1;
            if (t.place == 0) {
                t.back = false;
            }
            if (t.place == 5 && !t.back) {
                int offer = t.offer(this);
                if (offer > 0 && offer <= purse && offer >= t.worth) {
                    purse -= offer;
                    t.back = true;
                    t.turned++;
                    t.worth = Math.min(99, t.worth + 3);
                }
            }
        }

        int city() {
            int bits = 0;
            for (Traveller t : travellers) {
                bits |= t.place == 10 ? 1 << t.number : 0;
            }
            return bits;
        }

        int pay() {
            int pay = 10;
            for (String clause : season.split(";")) {
                if (clause.startsWith("pay ")) {
                    pay = Integer.parseInt(clause.substring(4));
                }
            }
            return fixedPay != null ? fixedPay : pay;
        }

        int sum(Traveller t) {
            int sum = pay();
            for (String clause : season.split(";")) {
                String[] parts = clause.split(" ");
                if (parts.length == 3 && holds(parts[2], t)) {
                    sum += (parts[0].equals("more") ? 1 : -1) * Integer.parseInt(parts[1]);
                }
            }
            return sum;
        }

        /** Splits at the outermost |, then at the outermost &. */
        private boolean holds(String text, Traveller t) {
            for (char operator : new char[] {'|', '&'}) {
                int open = 0;
                for (int i = 0; i < text.length(); i++) {
                    char sign = text.charAt(i);
                    open += sign == '(' ? 1 : sign == ')' ? -1 : 0;
                    if (sign == operator && open == 0) {
                        boolean left = holds(text.substring(0, i), t);
                        boolean right = holds(text.substring(i + 1), t);
                        return operator == '|' ? left || right : left && right;
                    }
                }
            }
            if (text.charAt(0) == '!') {
                return !holds(text.substring(1), t);
            }
            if (text.charAt(0) == '(') {
                return holds(text.substring(1, text.length() - 1), t);
            }
            int value = value(text.charAt(0), t);
            int number = Integer.parseInt(text.substring(2));
            char relation = text.charAt(1);
            return relation == '<' ? value < number : relation == '=' ? value == number : value > number;
        }

        private int value(char letter, Traveller t) {
            switch (letter) {
                case 'p': return t.number;
                case 'k': return t.kind;
                case 'v': return t.v;
                case 'w': return t.worth / 10;
                case 't': return t.turned % 10;
                case 'd': return day % 10;
                default: throw new IllegalStateException("letter " + letter);
            }
        }

        boolean allSeen() {
            for (int[] row : seen) {
                if (copy().after(row[1]).travellers.get(row[0]).place != row[2]) {
                    return false;
                }
            }
            return true;
        }
    }

    private World world = new World();
    private World kept;
    private final StringBuilder text = new StringBuilder();
    private int seasons;
    private List<Integer> trace = new ArrayList<>();
    private final Integer[] sorts = new Integer[6];
    private final long[][] tapes = new long[6][];

    private boolean none(int t) {
        return t < 0 || t >= world.travellers.size();
    }

    private static boolean out(int n, int least, int most) {
        return n < least || n > most;
    }

    private Traveller one(int t) {
        return world.travellers.get(t);
    }

    int traveller(int kind, int v, int worth, int place) {
        if (out(kind, 0, 6) || out(place, 0, 10)) {
            return -1;
        }
        if (out(v, 0, 9) || out(worth, 0, 99)) {
            return -2;
        }
        if (world.travellers.size() == 6) {
            return -4;
        }
        Traveller t = made(kind);
        t.number = world.travellers.size();
        t.kind = kind;
        t.v = v;
        t.worth = worth;
        t.place = place;
        world.travellers.add(t);
        return t.number;
    }

    int of(int t, int what) {
        if (none(t) || out(what, 0, 7)) {
            return -10001;
        }
        Traveller one = one(t);
        int[] told = {one.kind, one.v, one.worth, one.place, one.back ? 1 : 0, one.turned};
        if (what < 6) {
            return told[what];
        }
        if (what == 6) {
            return one.offer(world);
        }
        for (int n = 0; n <= 60; n++) {
            if (world.copy().after(n).travellers.get(t).place == 10) {
                return n;
            }
        }
        return -5;
    }

    int set(int t, int what, int n) {
        if (none(t) || out(what, 0, 1)) {
            return -1;
        }
        if (out(n, 0, what == 0 ? 99 : 10)) {
            return -2;
        }
        int was = of(t, what + 2);
        if (what == 0) {
            one(t).worth = n;
        } else {
            one(t).place = n;
            one(t).back = false;
        }
        return was;
    }

    int back(int t, boolean is) {
        if (none(t)) {
            return -1;
        }
        if (one(t).place == 0 || one(t).place == 10) {
            return -3;
        }
        int was = of(t, 4);
        one(t).back = is;
        return was;
    }

    int purse(int n) {
        if (out(n, 0, 99999)) {
            return -2;
        }
        int was = world.purse;
        world.purse = n;
        return was;
    }

    int row(int t, int part, int n) {
        if (none(t) || out(part, 0, 3)) {
            return -1;
        }
        if (out(n, 0, 9)) {
            return -2;
        }
        if (one(t).kind != 6) {
            return -3;
        }
        int was = one(t).row[part];
        one(t).row[part] = n;
        return was;
    }

    int feed(int sign) {
        if (out(sign, 0, 127)) {
            return -2;
        }
        if (text.length() == 100) {
            return -4;
        }
        text.append((char) sign);
        return text.length();
    }

    int season() {
        if (seasons == 6) {
            return -4;
        }
        String whole = text.toString();
        text.setLength(0);
        int fault = SeasonsTest.faultOf(whole);
        if (fault >= 0) {
            return -10 - fault;
        }
        world.season = whole;
        return seasons++;
    }

    int told(int what) {
        int back = 0;
        int bar = 0;
        for (Traveller t : world.travellers) {
            back |= t.back ? 1 << t.number : 0;
            bar |= t.place == 5 ? 1 << t.number : 0;
        }
        return out(what, 0, 5) ? -1 : new int[] {world.day, world.pay(), world.purse, world.city(), back, bar}[what];
    }

    int pass(int n) {
        if (out(n, 0, 60)) {
            return -2;
        }
        if (world.day + n > 9999) {
            return -3;
        }
        return world.after(n).day;
    }

    int on(int n, int what) {
        int size = world.travellers.size();
        boolean place = what >= 10 && what < 10 + size;
        boolean turned = what >= 20 && what < 20 + size;
        if (what != 0 && what != 1 && !place && !turned) {
            return -1;
        }
        if (out(n, 0, 60)) {
            return -2;
        }
        World then = world.copy().after(n);
        return place ? then.travellers.get(what % 10).place : turned ? then.travellers.get(what % 10).turned
            : what == 0 ? then.purse : then.city();
    }

    int pays(int n, int what) {
        if (out(what, 0, 3)) {
            return -1;
        }
        if (out(n, 1, 20)) {
            return -2;
        }
        int least = 99;
        int cheap = -1;
        int rich = -5;
        for (int pay = 0; pay <= 49; pay++) {
            World then = world.copy().paying(pay).after(n);
            int many = Integer.bitCount(then.city());
            if (many < least) {
                least = many;
                cheap = pay;
            }
            rich = then.purse >= 1 ? pay : rich;
        }
        return what == 0 ? cheap : what == 1 ? least : what == 2 ? rich : bag(n);
    }

    private int bag(int n) {
        for (int size = 0; size <= world.travellers.size(); size++) {
            for (int bits = 0; bits < 1 << world.travellers.size(); bits++) {
                World then = world.copy();
                for (Traveller t : then.travellers) {
                    t.worth = (bits >> t.number & 1) == 1 ? 0 : t.worth;
                }
                if (Integer.bitCount(bits) == size && then.after(n).city() == 0) {
                    return bits;
                }
            }
        }
        return -5;
    }

    private int row(List<int[]> rows, int most, int... row) {
        if (rows.size() == most) {
            return -4;
        }
        rows.add(row);
        return rows.size();
    }

    int see(int t, int n, int place) {
        if (t == -1) {
            world.seen.clear();
            return 0;
        }
        if (none(t) || out(place, 0, 10)) {
            return -1;
        }
        return out(n, 0, 12) ? -2 : row(world.seen, 5, t, n, place);
    }

    int can(int t, int which, int what) {
        if (none(t) || out(which, 0, 1) || out(what, 0, 1)) {
            return -1;
        }
        List<Integer> so = new ArrayList<>();
        for (int n = 0; n < (which == 0 ? 100 : 10); n++) {
            World then = world.copy();
            if (which == 0) {
                then.travellers.get(t).worth = n;
            } else {
                then.travellers.get(t).v = n;
            }
            if (then.allSeen()) {
                so.add(n);
            }
        }
        return what == 0 ? so.size() : so.isEmpty() ? -5 : so.get(0);
    }

    int places(int t) {
        if (none(t)) {
            return -1;
        }
        int bits = 0;
        for (int place = 0; place <= 10; place++) {
            World then = world.copy();
            then.travellers.get(t).place = place;
            then.travellers.get(t).back = false;
            bits |= then.allSeen() ? 1 << place : 0;
        }
        return bits;
    }

    private static long part(long above, long below, int part) {
        long a = above;
        long b = below;
        while (b != 0) {
            long rest = a % b;
            a = b;
            b = rest;
        }
        return (part == 0 ? above : below) / a;
    }

    long odds(int t, int n, int part) {
        if (none(t) || out(n, 0, 60) || out(part, 0, 1)) {
            return NO;
        }
        long there = 0;
        for (int pay = 0; pay <= 20; pay++) {
            there += world.copy().paying(pay).after(n).travellers.get(t).place == 10 ? 1 : 0;
        }
        return part(there, 21, part);
    }

    long mean(int n, int part) {
        if (world.travellers.isEmpty() || out(n, 0, 60) || out(part, 0, 1)) {
            return NO;
        }
        long all = world.copy().after(n).travellers.stream().mapToLong(t -> t.turned).sum();
        return part(all, world.travellers.size(), part);
    }

    int plan(int what, int t) {
        if (what == -1) {
            world.plan.clear();
            return 0;
        }
        if (out(what, 0, 3) || what > 0 && none(t)) {
            return -1;
        }
        return row(world.plan, 10, what, t);
    }

    int ends(int what) {
        if (out(what, 0, 1)) {
            return -1;
        }
        World then = world.copy();
        for (int[] row : world.plan) {
            Traveller t = row[0] == 0 ? null : then.travellers.get(row[1]);
            switch (row[0]) {
                case 0:
                    then.after(1);
                    break;
                case 1:
                    t.place = 0;
                    t.back = false;
                    break;
                case 2:
                    t.worth = Math.min(99, t.worth + 10);
                    break;
                default:
                    t.back = t.back || t.place > 0 && t.place < 10;
            }
        }
        return what == 0 ? then.purse : then.city();
    }

    int book(int t, int place) {
        if (t == -1) {
            world.book.clear();
            return 0;
        }
        return none(t) || out(place, 0, 10) ? -1 : row(world.book, 8, t, place);
    }

    int looked() {
        for (int i = 0; i < world.book.size(); i++) {
            if (one(world.book.get(i)[0]).place != world.book.get(i)[1]) {
                return i;
            }
        }
        return -5;
    }

    int judge(int tape, int i) {
        if (out(tape, 0, 5)) {
            return -1;
        }
        if (sorts[tape] != null && sorts[tape] != 4) {
            return -12;
        }
        for (Traveller t : world.travellers) {
            long at = (long) i + t.number;
            if (sorts[tape] == null || i < 0 || at >= tapes[tape].length) {
                return 100 + t.number;
            }
            if (tapes[tape][(int) at] == 1 != t.back) {
                return t.number;
            }
        }
        return -5;
    }

    int image() {
        kept = world.copy();
        return world.travellers.size();
    }

    int undo() {
        if (kept == null) {
            return -3;
        }
        world = kept.copy();
        return world.travellers.size();
    }

    int act(int t, int act, int x) {
        trace = new ArrayList<>();
        if (none(t) || out(act, 0, 2)) {
            return 0;
        }
        return act == 0 ? one(t).walks(trace, x) : act == 1 ? one(t).sighs(trace, x) : one(t).tells(trace, x);
    }

    int trace(int i) {
        return out(i, 0, Math.min(20, trace.size()) - 1) ? -1 : trace.get(i);
    }

    int taken(int t, int k) {
        if (out(k, 0, 6)) {
            return -2;
        }
        return none(t) ? -11 : KINDS[k].isInstance(one(t)) ? one(t).kind : -12;
    }

    int count(int what) {
        int[] counts = {world.travellers.size(), seasons, world.seen.size(), world.plan.size(), world.book.size(),
            text.length(), trace.size()};
        return out(what, 0, 6) ? -2 : counts[what];
    }

    int tape(int tape, int sort, int n) {
        if (out(tape, 0, 5)) {
            return -1;
        }
        if (out(sort, -1, 4) || sort >= 0 && n > 60) {
            return -2;
        }
        if (sort >= 0 && n < 0) {
            return -14;
        }
        sorts[tape] = sort < 0 ? null : sort;
        tapes[tape] = sort < 0 ? null : new long[n];
        return 1;
    }

    int item(int tape, int i, long v) {
        if (out(tape, 0, 5)) {
            return -1;
        }
        if (sorts[tape] == null) {
            return -11;
        }
        if (out(i, 0, tapes[tape].length - 1)) {
            return -13;
        }
        int bits = new int[] {8, 16, 32, 64, 0}[sorts[tape]];
        tapes[tape][i] = bits == 0 ? v != 0 ? 1 : 0 : v << 64 - bits >> 64 - bits;
        return 1;
    }

    long read(int tape, int i) {
        return out(tape, 0, 5) || sorts[tape] == null || out(i, 0, tapes[tape].length - 1) ? NO : tapes[tape][i];
    }

    int shift(int tape, int i, int other, int j, int n) {
        if (out(tape, 0, 5) || out(other, 0, 5)) {
            return -1;
        }
        if (sorts[tape] == null || sorts[other] == null) {
            return -11;
        }
        if (!sorts[tape].equals(sorts[other])) {
            return -12;
        }
        if (n < 0 || i < 0 || j < 0 || (long) i + n > tapes[tape].length || (long) j + n > tapes[other].length) {
            return -13;
        }
        long[] were = tapes[tape].clone();
        for (int k = 0; k < n; k++) {
            tapes[other][j + k] = were[i + k];
        }
        return n;
    }
}
