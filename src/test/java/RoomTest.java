import java.lang.management.ManagementFactory;
import java.lang.reflect.InvocationTargetException;
import java.lang.reflect.Method;
import java.lang.reflect.Modifier;
import java.util.ArrayList;
import java.util.Comparator;
import java.util.List;

/** That no call throws, whatever it is given in whatever state, and that calls make next to nothing new. */
public final class RoomTest {
    private static final Due due = new Due("RoomTest");

    private static final int[] NUMBERS = {0, 1, 2, 3, 4, 5, 6, 7, 8, 9, 10, 11, 12, 13, 19, 20, 21, 25, 26, 49, 59, 60,
        61, 98, 99, 100, 127, 128, 9999, 99999, 100000, -1, -2, -3, -4, -5, -10001, Integer.MAX_VALUE,
        Integer.MAX_VALUE - 1, Integer.MIN_VALUE, Integer.MIN_VALUE + 1, 1 << 30, 1 << 31};

    public static void main(String[] args) {
        nothingThrows();
        makesNextToNothing();
        due.end();
    }

    private static List<Method> calls() {
        List<Method> calls = new ArrayList<>();
        for (Method method : TurnBack.class.getDeclaredMethods()) {
            if (Modifier.isPublic(method.getModifiers())) {
                calls.add(method);
            }
        }
        // The order in which the machine names them is not promised.
        calls.sort(Comparator.comparing(Method::getName));
        return calls;
    }

    private static void nothingThrows() {
        List<Method> calls = calls();
        for (int run = 0; run < 400; run++) {
            Dice dice = new Dice(1000 + run);
            TurnBack x = new TurnBack();
            // What is answered beyond 512 calls is free, but no call throws.
            for (int call = 0; call < 600; call++) {
                boolean wild = run % 2 == 0;
                if (dice.once(40)) {
                    Houses.season(x, Texts.maybeFaulty(dice));
                }
                answers(x, calls.get(dice.upTo(calls.size())), dice, wild);
            }
        }
    }

    private static void answers(TurnBack x, Method method, Dice dice, boolean wild) {
        Object[] given = new Object[method.getParameterCount()];
        for (int i = 0; i < given.length; i++) {
            int n = NUMBERS[dice.upTo(wild ? NUMBERS.length : 8)];
            Class<?> type = method.getParameterTypes()[i];
            if (type == boolean.class) {
                given[i] = n % 2 == 0;
            } else if (type == long.class) {
                given[i] = (long) n << dice.upTo(33);
            } else {
                given[i] = n;
            }
        }
        try {
            method.invoke(x, given);
            due.holds("answers", true);
        } catch (InvocationTargetException | IllegalAccessException e) {
            due.holds(method + " of " + List.of(given) + ": " + e.getCause(), false);
        }
    }

    private static long allocated() {
        return ((com.sun.management.ThreadMXBean) ManagementFactory.getThreadMXBean()).getCurrentThreadAllocatedBytes();
    }

    private static TurnBack full() {
        TurnBack x = new TurnBack();
        for (int t = 0; t < 6; t++) {
            x.traveller(6 - t, t, 5 * t, t);
            x.plan(0, 0);
            x.book(t, t);
        }
        due.is("the season", Houses.season(x, "more 9 p<3&!(k=2|v>4);less 4 (w=1|d<5)&t<9;pay 25;more 1 k>0;"
            + "less 2 ((p=1|p=2)&d>2);more 3 w<9"), 0);
        x.see(0, 12, x.on(12, 10));
        x.see(5, 12, x.on(12, 15));
        x.tape(0, 4, 60);
        return x;
    }

    private static long dear(TurnBack x, int call) {
        switch (call % 8) {
            case 0: return x.pays(20, 0);
            case 1: return x.pays(20, 3);
            case 2: return x.can(0, 0, 0);
            case 3: return x.places(5);
            case 4: return x.odds(3, 60, 0);
            case 5: return x.of(4, 7);
            case 6: return x.image() + x.undo() + x.ends(0) + x.act(0, 2, 5) + x.judge(0, 0);
            default: return x.tape(1, 3, 60) + x.shift(1, 0, 1, 1, 59) + x.mean(60, 0) + Houses.season(x, "pay 12 ");
        }
    }

    private static void makesNextToNothing() {
        long sum = 0;
        // Ahead of the measured run, so that what is loaded but once does not count.
        for (int call = 0; call < 64; call++) {
            sum += dear(full(), call);
        }
        long before = allocated();
        TurnBack x = full();
        long made = allocated();
        for (int call = 0; call < 512; call++) {
            sum += dear(x, call);
        }
        long after = allocated();
        due.holds("calls ran", sum != 0);
        due.holds("an object takes " + (made - before) + " bytes", made - before < 16 * 1024);
        due.holds("512 dear calls take " + (after - made) + " bytes", after - made < 4 * 1024);
    }
}
