import java.lang.reflect.Field;
import java.lang.reflect.Method;

/**
 * What the document tells and no run of 512 calls can bring about: one who turned 9999 times, an act of more
 * bodies than are kept. It is put into an object by the names that the class has within, and fails if these change.
 */
final class Inside {
    private Inside() {
    }

    private static Object field(Object of, String name) throws ReflectiveOperationException {
        Field field = of.getClass().getDeclaredField(name);
        field.setAccessible(true);
        return field.get(of);
    }

    static void turn(TurnBack x, int traveller, int times) {
        try {
            ((int[]) field(field(x, "road"), "turned"))[traveller] = times;
        } catch (ReflectiveOperationException e) {
            throw new IllegalStateException(e);
        }
    }

    /** Lets one walk once more (number 0, v 0, kind 0, so that body 10 runs), as a part of the latest act. */
    static void walkOn(TurnBack x) {
        try {
            Object acts = field(x, "acts");
            Method begin = acts.getClass().getDeclaredMethod("begin", int.class, int.class, int.class, int.class,
                int.class);
            begin.setAccessible(true);
            begin.invoke(acts, 0, 0, 0, 0, 0);
        } catch (ReflectiveOperationException e) {
            throw new IllegalStateException(e);
        }
    }
}
