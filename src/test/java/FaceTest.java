import java.io.IOException;
import java.lang.reflect.Constructor;
import java.lang.reflect.Field;
import java.lang.reflect.Method;
import java.lang.reflect.Modifier;
import java.nio.file.Files;
import java.nio.file.Path;
import java.util.ArrayList;
import java.util.Arrays;
import java.util.List;
import java.util.TreeSet;
import java.util.regex.Matcher;
import java.util.regex.Pattern;

/** The public face, and those rules of LANGUAGE.md that can be seen by a look at the class or its text. */
public final class FaceTest {
    private static final Due due = new Due("FaceTest");

    private static final String[] FACE = {
        "int traveller(int,int,int,int)", "int of(int,int)", "int set(int,int,int)", "int back(int,boolean)",
        "int purse(int)", "int row(int,int,int)", "int feed(int)", "int season()", "int told(int)", "int pass(int)",
        "int on(int,int)", "int pays(int,int)", "int see(int,int,int)", "int can(int,int,int)", "int places(int)",
        "long odds(int,int,int)", "long mean(int,int)", "int plan(int,int)", "int ends(int)", "int book(int,int)",
        "int looked()", "int judge(int,int)", "int image()", "int undo()", "int act(int,int,int)", "int trace(int)",
        "int taken(int,int)", "int count(int)", "int tape(int,int,int)", "int item(int,int,long)",
        "long read(int,int)", "int shift(int,int,int,int,int)"
    };

    public static void main(String[] args) throws IOException {
        methods();
        otherMembers();
        classesInside();
        if (args.length > 0) {
            text(Files.readString(Path.of(args[0])));
        }
        due.end();
    }

    private static void methods() {
        TreeSet<String> want = new TreeSet<>(Arrays.asList(FACE));
        TreeSet<String> got = new TreeSet<>();
        TreeSet<String> names = new TreeSet<>();
        for (Method method : TurnBack.class.getDeclaredMethods()) {
            if (Modifier.isPublic(method.getModifiers())) {
                List<String> types = new ArrayList<>();
                for (Class<?> type : method.getParameterTypes()) {
                    types.add(type.getName());
                }
                got.add(method.getReturnType() + " " + method.getName() + "(" + String.join(",", types) + ")");
                names.add(method.getName());
                due.holds(method + " is of the object", !Modifier.isStatic(method.getModifiers()));
            }
        }
        due.holds("the face is " + want + ", and not " + got, want.equals(got));
        for (Method method : TurnBack.class.getDeclaredMethods()) {
            if (!Modifier.isPublic(method.getModifiers())) {
                due.holds(method + " is private", Modifier.isPrivate(method.getModifiers()));
                due.holds(method + " has a name of its own", !names.contains(method.getName()));
            }
        }
    }

    private static void otherMembers() {
        int modifiers = TurnBack.class.getModifiers();
        due.holds("public and final", Modifier.isPublic(modifiers) && Modifier.isFinal(modifiers));
        due.is("constructors", TurnBack.class.getDeclaredConstructors().length, 1);
        for (Constructor<?> constructor : TurnBack.class.getDeclaredConstructors()) {
            due.holds("the constructor is public", Modifier.isPublic(constructor.getModifiers()));
            due.is("and takes nothing", constructor.getParameterCount(), 0);
        }
        TreeSet<String> constants = new TreeSet<>();
        for (Field field : TurnBack.class.getDeclaredFields()) {
            if (Modifier.isPublic(field.getModifiers())) {
                constants.add(field.getType() + " " + field.getName());
                due.holds(field + " is a constant", Modifier.isStatic(field.getModifiers())
                    && Modifier.isFinal(field.getModifiers()));
            } else {
                due.holds(field + " is private", Modifier.isPrivate(field.getModifiers()));
            }
        }
        due.holds("constants: " + constants, constants.equals(new TreeSet<>(List.of("int NONE", "int BAD",
            "int STATE", "int FULL", "long NO"))));
    }

    private static void classesInside() {
        Class<?>[] inside = TurnBack.class.getDeclaredClasses();
        due.holds("some twelve classes", inside.length <= 11);
        for (Class<?> c : inside) {
            due.holds(c + " is static", Modifier.isStatic(c.getModifiers()));
            due.holds(c + " is not public", !Modifier.isPublic(c.getModifiers()));
            int own = 0;
            for (Field field : c.getDeclaredFields()) {
                due.holds(field + " static and not final", !Modifier.isStatic(field.getModifiers())
                    || Modifier.isFinal(field.getModifiers()));
                own += Modifier.isStatic(field.getModifiers()) ? 0 : 1;
            }
            due.holds(c + " has some twenty fields", own <= 20);
            for (Method method : c.getDeclaredMethods()) {
                due.holds(method + " takes seven parameters at most", method.getParameterCount() <= 7);
            }
        }
    }

    private static void text(String program) {
        String code = program.replaceAll("(?s)/\\*.*?\\*/", " ").replaceAll("//[^\n]*", " ");
        due.holds("plain signs alone", program.chars().allMatch(sign -> sign == '\n' || sign >= ' ' && sign < 127));
        for (String word : new String[] {"throw", "throws", "try", "catch", "finally", "synchronized", "assert",
            "import", "package", "native", "volatile", "equals", "hashCode", "toString"}) {
            due.holds("no " + word, !Pattern.compile("\\b" + word + "\\b").matcher(code).find());
        }
        due.holds("no lambda", !code.contains("->"));
        due.holds("no method reference", !code.contains("::"));
        Matcher library = Pattern.compile("\\b(System|Math|Integer|Long|Arrays)\\.(\\w+)").matcher(code);
        List<String> allowed = List.of("System.arraycopy", "Math.min", "Math.max", "Integer.bitCount", "Long.MIN_VALUE");
        while (library.find()) {
            due.holds("library: " + library.group(), allowed.contains(library.group()));
        }
    }
}
