import java.io.IOException;
import java.lang.reflect.InvocationTargetException;
import java.lang.reflect.Method;
import java.lang.reflect.Modifier;
import java.net.URL;
import java.net.URLClassLoader;
import java.nio.file.Files;
import java.nio.file.Path;
import java.util.ArrayList;
import java.util.List;
import java.util.TreeSet;
import java.util.regex.Matcher;
import java.util.regex.Pattern;
import java.util.stream.Stream;
import javax.tools.JavaCompiler;
import javax.tools.ToolProvider;

/**
 * That README.md can't say otherwise than the class answers: its Java is compiled and run as it stands there, and
 * each call that it shows has to answer the number beside it. A call in braces (a loop's) names no number.
 */
public final class ReadmeTest {
    private static final Due due = new Due("ReadmeTest");

    private static final Pattern SHOWN = Pattern.compile("(house\\.\\w+\\(.*\\)); +// (-?\\d+)(?:, ([A-Z]+))?: .+");
    private static final Pattern CALLED = Pattern.compile("\\bhouse\\.(\\w+)\\(");

    private static final Pattern ANY = Pattern.compile("\\b(" + String.join("|", publicNames()) + ")\\(");

    private record Shown(int line, String call, long answer, String name) { }

    private final List<Shown> shown = new ArrayList<>();
    private final StringBuilder body = new StringBuilder();
    private final TreeSet<String> called = new TreeSet<>();

    public static void main(String[] args) throws IOException, ReflectiveOperationException {
        Path readme = Path.of(args.length > 2 ? args[2] : "README.md");
        Path document = Path.of(args.length > 1 ? args[1] : "../shared/DOC.md");
        ReadmeTest test = new ReadmeTest();
        test.read(Files.readAllLines(readme));
        test.answers();
        test.everyCallIsShown();
        test.names(Files.isRegularFile(document) ? Files.readString(document) : "");
        testsAreTold(Files.readString(readme), readme.toAbsolutePath().getParent().resolve("src/test/java"));
        due.end();
    }

    private void read(List<String> lines) {
        String fence = "";
        for (int i = 0; i < lines.size(); i++) {
            String line = lines.get(i);
            if (line.startsWith("```")) {
                fence = fence.isEmpty() ? line : "";
            } else if (fence.equals("```java")) {
                java(i + 1, line);
            } else {
                due.holds("line " + (i + 1) + " shows no call, as it would not be run: " + line,
                    !ANY.matcher(line).find());
            }
        }
        due.holds("each block has an end", fence.isEmpty());
    }

    private static TreeSet<String> publicNames() {
        TreeSet<String> names = new TreeSet<>();
        for (Method method : TurnBack.class.getDeclaredMethods()) {
            if (Modifier.isPublic(method.getModifiers())) {
                names.add(method.getName());
            }
        }
        return names;
    }

    private void java(int line, String code) {
        Matcher calls = CALLED.matcher(code);
        boolean calling = false;
        while (calls.find()) {
            calling = true;
            called.add(calls.group(1));
        }
        Matcher matcher = SHOWN.matcher(code);
        if (matcher.matches()) {
            body.append("got[").append(shown.size()).append("] = ").append(matcher.group(1)).append(";\n");
            shown.add(new Shown(line, matcher.group(1), Long.parseLong(matcher.group(2)), matcher.group(3)));
            return;
        }
        boolean inBraces = code.startsWith(" ") && !code.contains("//");
        due.holds("line " + line + " names the call's answer beside it: " + code, !calling || inBraces);
        body.append(code).append('\n');
    }

    private void answers() throws IOException, ReflectiveOperationException {
        Path room = Files.createTempDirectory("readme");
        try {
            long[] got = run(room);
            due.is("answers", got.length, shown.size());
            for (int i = 0; i < got.length; i++) {
                due.is("by README.md, line " + shown.get(i).line() + ": " + shown.get(i).call(), got[i],
                    shown.get(i).answer());
            }
        } finally {
            clear(room);
        }
    }

    private long[] run(Path room) throws IOException, ReflectiveOperationException {
        Path source = room.resolve("ReadmeShows.java");
        Files.writeString(source, "public final class ReadmeShows {\npublic static long[] answers() {\n"
            + "long[] got = new long[" + shown.size() + "];\n" + body + "return got;\n}\n}\n");
        JavaCompiler compiler = ToolProvider.getSystemJavaCompiler();
        due.holds("there is a compiler", compiler != null);
        if (compiler == null) {
            return new long[0];
        }
        int code = compiler.run(null, null, null, "--release", "17", "-cp", System.getProperty("java.class.path"), "-d",
            room.toString(), source.toString());
        due.is("README.md's Java compiles: the compiler's exit code", code, 0);
        if (code != 0) {
            return new long[0];
        }
        try (URLClassLoader loader = new URLClassLoader(new URL[] {room.toUri().toURL()})) {
            return (long[]) loader.loadClass("ReadmeShows").getMethod("answers").invoke(null);
        } catch (InvocationTargetException e) {
            due.holds("README.md's Java runs to its end: " + e.getCause(), false);
            return new long[0];
        }
    }

    private static void clear(Path room) throws IOException {
        List<Path> files;
        try (Stream<Path> all = Files.list(room)) {
            files = all.toList();
        }
        for (Path file : files) {
            Files.delete(file);
        }
        Files.delete(room);
    }

    private void everyCallIsShown() {
        for (String name : publicNames()) {
            due.holds("README.md shows " + name, called.contains(name));
        }
        due.is("objects that README.md makes", body.toString().split("new TurnBack\\(\\)", -1).length - 1, 1);
    }

    /** A name beside an answer is the one that the document and, if it is the class's, the class give that number. */
    private void names(String document) throws ReflectiveOperationException {
        TreeSet<String> named = new TreeSet<>();
        for (Shown one : shown) {
            String name = one.name();
            if (name != null) {
                named.add(name);
                String told = name.equals("NO") ? "NO = Long.MIN_VALUE" : name + " (" + one.answer() + ")";
                due.holds("line " + one.line() + ": the document has " + told,
                    document.isEmpty() || document.contains(told));
            }
        }
        for (String constant : List.of("NONE", "BAD", "STATE", "FULL", "NO")) {
            long value = ((Number) TurnBack.class.getField(constant).get(null)).longValue();
            boolean so = shown.stream().anyMatch(one -> constant.equals(one.name()) && one.answer() == value);
            due.holds("README.md shows a call that answers " + constant, so);
        }
        due.holds("README.md shows the host's refusals, too: " + named,
            named.containsAll(List.of("NOTHING", "CAST", "PLACE", "SIZE")));
    }

    private static void testsAreTold(String readme, Path folder) throws IOException {
        TreeSet<String> tests = new TreeSet<>();
        try (Stream<Path> all = Files.list(folder)) {
            all.map(file -> file.getFileName().toString()).filter(name -> name.endsWith("Test.java"))
                .forEach(name -> tests.add(name.substring(0, name.length() - ".java".length())));
        }
        TreeSet<String> told = new TreeSet<>();
        Matcher row = Pattern.compile("(?m)^\\| `(\\w+)` \\|").matcher(readme);
        while (row.find()) {
            told.add(row.group(1));
        }
        due.holds("README.md tells of these tests: " + tests + ", not of " + told, tests.equals(told));
    }
}
