import java.util.ArrayList;
import java.util.List;
import java.util.function.Supplier;
import java.util.function.ToIntFunction;

/** An object under test with what makes its calls short to write, and the count of wrong answers. */
final class Bench {
    private static int wrong = 0;
    private static int asked = 0;

    final Subject x = new Subject();

    /** Collects a text, by feeds of twenty bytes and one end. */
    Bench type(String text) {
        int[] five = new int[5];
        for (int from = 0; from < text.length(); from += 20) {
            for (int i = 0; i < 5; i++) {
                five[i] = 0;
                for (int k = 0; k < 4; k++) {
                    int at = from + i * 4 + k;
                    five[i] = five[i] << 8 | (at < text.length() ? text.charAt(at) : 7);
                }
            }
            x.feed(five[0], five[1], five[2], five[3], five[4]);
        }
        if (text.length() % 20 != 0) {
            x.end(text.length() % 20);
        }
        return this;
    }

    Bench ends(int n, int due) {
        same("end(" + n + ")", x.end(n), due);
        return this;
    }

    int line(String text) {
        return type(text).x.line();
    }

    int value(String name) {
        return type(name).x.value();
    }

    Bench parameters(String... values) {
        x.shift(x.count(2));
        for (String value : values) {
            same("parameter " + value, type(value).x.parameter() > 0, true);
        }
        return this;
    }

    /** Gives a variable a value without an apostrophe. */
    Bench set(String name, String value) {
        same("setting " + name, line(name + "='" + value + "'"), 0);
        return this;
    }

    Bench tree(String... paths) {
        for (String path : paths) {
            boolean directory = path.endsWith("/");
            String name = directory ? path.substring(0, path.length() - 1) : path;
            same("make " + path, type(name).x.make(directory ? 0 : 1) > 0, true);
        }
        return this;
    }

    String fields() {
        return fields(x);
    }

    /** The fields at hand, each in [ ]. */
    static String fields(Subject x) {
        StringBuilder all = new StringBuilder();
        int many = x.count(5);
        for (int i = 0; i < many; i++) {
            int size = x.field(i);
            all.append('[');
            for (int k = 0; k < size; k++) {
                all.append((char) x.byteOf(i, k));
            }
            all.append(']');
        }
        return all.toString();
    }

    String message() {
        StringBuilder all = new StringBuilder();
        int size = x.message(-1);
        for (int k = 0; k < size; k++) {
            all.append((char) x.message(k));
        }
        return all.toString();
    }

    /** All that calls tell without changing anything. */
    String face() {
        StringBuilder all = new StringBuilder();
        for (int what = 0; what < 7; what++) {
            all.append(x.count(what)).append(' ');
        }
        return all.append(fields()).append(x.place()).append(' ').append(x.message(-1)).append(message()).toString();
    }

    /** All that can be found out; what is collected is taken as a line for it, and much is changed. */
    String whole() {
        StringBuilder all = new StringBuilder(face());
        all.append(" collected ").append(x.line()).append(fields()).append(" strict ").append(x.strict(false));
        for (String name : new String[] {"a", "b", "c", "n", "L", "HOME", "IFS", "longname"}) {
            int answer = value(name);
            all.append(' ').append(name).append(answer).append(answer < 0 ? "" : fields());
        }
        int parameters = x.count(2);
        for (int i = 1; i <= parameters; i++) {
            all.append(" $").append(i).append(line("\"${" + i + "}\"")).append(fields());
        }
        for (String path : new String[] {"~u", "~v", "~w", "~longname", "*", "*/", "../*", "/*", "/.*", "/*/*", "/*/*/", "/*/.*", "/*/*/*"}) {
            all.append(' ').append(path).append(line(path)).append(fields());
        }
        for (String name : new String[] {"a", "b", "n", "L", "longname"}) {
            all.append(" lock ").append(name).append(type(name).x.mark(1));
        }
        return all.toString();
    }

    /** A call that must answer BAD, and must leave all as it is on a twin without that call. */
    static void refused(String what, Supplier<Bench> made, ToIntFunction<Bench> call) {
        Bench one = made.get();
        String before = one.face();
        same(what, call.applyAsInt(one), LineExpander.BAD);
        same("at once behind " + what, one.face(), before);
        same("all behind " + what, one.whole(), made.get().whole());
    }

    /** A line must give these fields, each in [ ]. */
    Bench gives(String line, String fields) {
        int answer = line(line);
        String got = answer < 0 ? "answer " + answer : fields();
        same(line, got, fields);
        if (answer >= 0) {
            same("count(5) behind " + line, x.count(5), answer);
        }
        same("place() behind " + line, x.place(), LineExpander.NONE);
        return this;
    }

    /** A line must have this fault at this place. */
    Bench faults(String line, int fault, int place) {
        same(line, line(line), -10 - fault);
        same("place() behind " + line, x.place(), place);
        same("count(5) behind " + line, x.count(5), 0);
        return this;
    }

    /** A line must end by this ERROR. */
    Bench errs(String line, int error) {
        same(line, line(line), -20 - error);
        same("place() behind " + line, x.place(), LineExpander.NONE);
        same("count(5) behind " + line, x.count(5), 0);
        return this;
    }

    /** A variable must have this value; null: it must not be set. */
    Bench has(String name, String value) {
        int answer = value(name);
        if (value == null) {
            same("value of " + name, answer, LineExpander.NONE);
        } else {
            same("value of " + name, answer < 0 ? "answer " + answer : fields(), "[" + value + "]");
        }
        return this;
    }

    static String times(String part, int times) {
        return part.repeat(times);
    }

    static List<String> names(String prefix, int many) {
        List<String> all = new ArrayList<>();
        for (int i = 0; i < many; i++) {
            all.add(prefix + i);
        }
        return all;
    }

    static void same(String what, Object got, Object due) {
        asked++;
        if (!got.equals(due)) {
            wrong++;
            if (wrong <= 40) {
                System.out.println(brief(what) + " answered " + brief(got.toString()) + ", due is " + brief(due.toString()));
            }
        }
    }

    private static String brief(String text) {
        return text.length() <= 600 ? text : text.substring(0, 300) + " .. " + text.substring(text.length() - 300);
    }

    static void close() {
        System.out.println(wrong == 0 ? asked + " answers are as due" : wrong + " of " + asked + " answers are not as due");
        if (wrong != 0 || asked == 0) {
            System.exit(1);
        }
    }
}
