import java.io.IOException;
import java.lang.reflect.Constructor;
import java.lang.reflect.Field;
import java.lang.reflect.Method;
import java.lang.reflect.Modifier;
import java.nio.file.Files;
import java.nio.file.Path;
import java.util.ArrayList;
import java.util.Arrays;
import java.util.List;
import java.util.Set;
import java.util.TreeSet;
import java.util.regex.Matcher;
import java.util.regex.Pattern;

/** The face of the document, and the rules of LANGUAGE.md that can be seen from outside. */
public final class LanguageTest {
    private static final Set<String> FACE = new TreeSet<>(Arrays.asList(
        "feed(int,int,int,int,int)", "end(int)", "line()", "place()", "field(int)", "byteOf(int,int)", "message(int)", "value()", "parameter()",
        "shift(int)", "mark(int)", "strict(boolean)", "user()", "make(int)", "drop()", "go()", "count(int)"));

    public static void main(String[] args) throws IOException {
        face();
        classes();
        source(Files.readString(Path.of("src/main/java/LineExpander.java")));
        Bench.close();
    }

    private static String signature(Method method) {
        List<String> types = new ArrayList<>();
        for (Class<?> type : method.getParameterTypes()) {
            types.add(type.getName());
        }
        return method.getName() + "(" + String.join(",", types) + ")";
    }

    private static void face() {
        Class<?> face = LineExpander.class;
        Bench.same("public and final", face.getModifiers() & (Modifier.PUBLIC | Modifier.FINAL), Modifier.PUBLIC | Modifier.FINAL);
        Set<String> open = new TreeSet<>();
        Set<String> names = new TreeSet<>();
        for (Method method : face.getDeclaredMethods()) {
            if (!Modifier.isPrivate(method.getModifiers())) {
                open.add(signature(method));
                names.add(method.getName());
                Bench.same(method.getName() + " is public", Modifier.isPublic(method.getModifiers()) && !Modifier.isStatic(method.getModifiers()), true);
                Bench.same(method.getName() + " answers", method.getReturnType(), int.class);
            }
        }
        Bench.same("methods", open, FACE);
        for (Method method : face.getDeclaredMethods()) {
            Bench.same(method + " bears its own name", Modifier.isPrivate(method.getModifiers()) && names.contains(method.getName()), false);
        }
        Set<String> fields = new TreeSet<>();
        for (Field field : face.getDeclaredFields()) {
            if (!Modifier.isPrivate(field.getModifiers())) {
                fields.add(Modifier.toString(field.getModifiers()) + " " + field.getType() + " " + field.getName());
            }
        }
        Bench.same("constants", fields.toString(), "[public static final int BAD, public static final int NONE]");
        Constructor<?>[] made = face.getDeclaredConstructors();
        Bench.same("constructors", made.length == 1 && made[0].getParameterCount() == 0 && Modifier.isPublic(made[0].getModifiers()), true);
    }

    private static void classes() {
        List<Class<?>> all = new ArrayList<>(Arrays.asList(LineExpander.class.getDeclaredClasses()));
        Bench.same("twelve classes at most", all.size() + 1 <= 12, true);
        for (Class<?> inner : all) {
            Bench.same(inner + " is static", Modifier.isStatic(inner.getModifiers()), true);
            Bench.same(inner + " is not public", inner.getModifiers() & (Modifier.PUBLIC | Modifier.PROTECTED), 0);
        }
        all.add(LineExpander.class);
        for (Class<?> each : all) {
            int fields = 0;
            for (Field field : each.getDeclaredFields()) {
                boolean fixed = Modifier.isStatic(field.getModifiers());
                fields += fixed ? 0 : 1;
                Bench.same(field + " is final", !fixed || Modifier.isFinal(field.getModifiers()), true);
            }
            Bench.same(each + " has twenty fields at most", fields <= 20, true);
            for (Method method : each.getDeclaredMethods()) {
                Bench.same(method + " takes seven at most", method.getParameterCount() <= 7, true);
                boolean borrowed = each != LineExpander.class && FACE.toString().matches(".*\\b" + method.getName() + "\\(.*");
                Bench.same(method + " bears a name of the face", borrowed, false);
            }
        }
    }

    private static void source(String text) {
        String code = text.replaceAll("(?s)/\\*.*?\\*/", "").replaceAll("//[^\n]*", "").replaceAll("'(\\\\.|[^'\\\\])'", "0");
        for (String word : new String[] {"throw", "throws", "try", "catch", "finally", "synchronized", "assert", "import", "package", "String",
            "Object", "equals", "hashCode", "toString", "volatile", "native", "double", "float", "yield", "Integer", "Long", "protected"}) {
            Bench.same(word + " in the source", Pattern.compile("\\b" + word + "\\b").matcher(code).find(), false);
        }
        Bench.same("no lambda nor reference", code.contains("->") || code.contains("::"), false);
        Bench.same("no static block", Pattern.compile("static\\s*\\{").matcher(code).find(), false);
        Bench.same("no text", code.contains("\""), false);
        Set<String> library = new TreeSet<>();
        Matcher calls = Pattern.compile("\\b(System|Math|Arrays)\\.(\\w+)").matcher(code);
        while (calls.find()) {
            library.add(calls.group());
        }
        Bench.same("the library", library.toString(), "[Math.max, Math.min, System.arraycopy]");
        int start = 0;
        int line = 0;
        for (String row : text.split("\n")) {
            line++;
            if (row.matches("^ {4,8}\\w.*\\) \\{$")) {
                start = line;
            } else if (row.matches("^ {4,8}\\}$")) {
                Bench.same("sixty lines at most, line " + line, start == 0 || line - start < 60, true);
                start = 0;
            }
        }
    }
}
