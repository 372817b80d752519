import java.io.IOException;
import java.io.UncheckedIOException;
import java.lang.invoke.MethodHandles;
import java.lang.reflect.Method;
import java.lang.reflect.Modifier;
import java.nio.file.Files;
import java.nio.file.Path;
import java.util.Set;
import java.util.TreeSet;
import java.util.regex.Matcher;
import java.util.regex.Pattern;
import java.util.stream.Stream;
import javax.tools.JavaCompiler;
import javax.tools.ToolProvider;

/** What README.md shows: its calls are compiled and run, and must answer as it says. */
public final class ReadmeTest {
    private static final Pattern BLOCK = Pattern.compile("(?ms)^```java\n(.*?)^```$");
    /** A call with its answer behind it, which ends with the line or a comma. */
    private static final Pattern CALL = Pattern.compile("(?m)^(x\\.(\\w+)\\(.*\\)); +// ([^,\n]+)(,.*)?$");
    private static final Pattern FIELDS = Pattern.compile(", the fields? (.*)");
    private static final Pattern FEED = Pattern.compile("(?m)^x\\.feed\\((.*)\\); .* with the bytes of: (.*)$");

    private final StringBuilder methods = new StringBuilder();
    private final StringBuilder calls = new StringBuilder();

    public static void main(String[] args) throws Exception {
        ReadmeTest test = new ReadmeTest(Files.readString(Path.of("README.md")));
        test.showsEveryCall();
        test.asksEachAnswer();
        test.saysWhatIsFed();
        Path out = Files.createTempDirectory("readme");
        try {
            // as it stands, with the class itself; and then with answers asked of the subject that counts its calls
            compile(out, "PlainUse", test.source("PlainUse", test.calls.toString()));
            compile(out, "AskedUse", test.source("AskedUse", test.asked()).replace("LineExpander", "Subject"));
            run(out, "AskedUse");
        } finally {
            delete(out);
        }
        Bench.close();
    }

    private ReadmeTest(String text) {
        Matcher blocks = BLOCK.matcher(text);
        while (blocks.find()) {
            (blocks.group(1).startsWith("static ") ? methods : calls).append(blocks.group(1));
        }
    }

    private void showsEveryCall() {
        Set<String> shown = new TreeSet<>();
        Matcher each = CALL.matcher(calls);
        while (each.find()) {
            shown.add(each.group(2));
        }
        Set<String> face = new TreeSet<>();
        for (Method method : LineExpander.class.getDeclaredMethods()) {
            if (Modifier.isPublic(method.getModifiers())) {
                face.add(method.getName());
            }
        }
        Bench.same("calls shown", shown, face);
    }

    /** No call stands there without an answer that is asked. */
    private void asksEachAnswer() {
        for (String row : calls.toString().split("\n")) {
            boolean fine = CALL.matcher(row).matches() || row.matches("(type\\(x, |LineExpander x = ).*;");
            Bench.same("a call with its answer: " + row, fine, true);
        }
    }

    private void saysWhatIsFed() {
        Matcher feed = FEED.matcher(calls);
        Bench.same("a feed", feed.find(), true);
        StringBuilder bytes = new StringBuilder();
        for (String number : feed.group(1).split(", ")) {
            int four = Integer.decode(number);
            for (int i = 24; i >= 0; i -= 8) {
                bytes.append((char) (four >>> i & 255));
            }
        }
        Bench.same("what is fed", bytes.toString().replaceAll("\0+$", ""), feed.group(2));
    }

    private String source(String name, String body) {
        return "final class " + name + " {\n" + methods + "static void run() {\n" + body + "}\n}\n";
    }

    private String asked() {
        return CALL.matcher(calls).replaceAll(call -> Matcher.quoteReplacement(
            "Bench.same(" + quoted(call.group(1)) + ", " + call.group(1) + ", (int) (" + call.group(3) + "));" + askedFields(call.group(4))));
    }

    /** The fields that README.md says a line has: one behind a comma or "and" each. */
    private static String askedFields(String remark) {
        Matcher told = FIELDS.matcher(remark == null ? "" : remark);
        if (!told.matches()) {
            return "";
        }
        String due = "[" + String.join("][", told.group(1).split(", | and ")) + "]";
        return "Bench.same(" + quoted("the fields" + remark) + ", Bench.fields(x), " + quoted(due) + ");";
    }

    private static String quoted(String text) {
        return "\"" + text.replace("\\", "\\\\").replace("\"", "\\\"") + "\"";
    }

    private static void compile(Path out, String name, String source) throws IOException {
        Path file = out.resolve(name + ".java");
        Files.writeString(file, source);
        JavaCompiler compiler = ToolProvider.getSystemJavaCompiler();
        int answer = compiler == null ? -1 : compiler.run(null, System.out, System.out,
            "-proc:none", "-cp", System.getProperty("java.class.path"), "-d", out.toString(), file.toString());
        Bench.same("javac of README.md's calls", answer, 0);
    }

    /** In the loader of the tests, as their classes are no public ones. */
    private static void run(Path out, String name) throws Exception {
        Class<?> use = MethodHandles.lookup().defineClass(Files.readAllBytes(out.resolve(name + ".class")));
        use.getDeclaredMethod("run").invoke(null);
    }

    private static void delete(Path directory) throws IOException {
        try (Stream<Path> all = Files.walk(directory)) {
            all.sorted((a, b) -> b.compareTo(a)).forEach(path -> {
                try {
                    Files.delete(path);
                } catch (IOException e) {
                    throw new UncheckedIOException(e);
                }
            });
        }
    }
}
