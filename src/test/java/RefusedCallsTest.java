import java.util.function.Supplier;
import java.util.function.ToIntFunction;

/**
 * Promises 2 to 18: what each call refuses, right beside what it still meets; and that a refused
 * call leaves all else as it was.
 */
public final class RefusedCallsTest {
    private static final int BAD = LineExpander.BAD, NONE = LineExpander.NONE;
    private static final int[] FAR = {Integer.MIN_VALUE, Integer.MIN_VALUE + 1, -1000, 1000, Integer.MAX_VALUE - 1, Integer.MAX_VALUE};

    public static void main(String[] args) {
        feed();
        end();
        line();
        fieldsAndBytes();
        message();
        value();
        parameter();
        shift();
        mark();
        user();
        make();
        drop();
        go();
        count();
        Bench.close();
    }

    /** An object with something of all that there is, fields at hand among it. */
    private static Bench rich() {
        Bench b = new Bench().parameters("p q", "", "r").tree("/d/", "/d/a", "/d/.h", "/d/e/", "/d/e/x", "/f");
        b.type("u=/us").x.user();
        b.type("v=").x.user();
        b.type("/d").x.go();
        b.errs("${n?the message}", 2);
        b.line("a=1 b= c='x y' L=5 one 'two 2' ''");
        b.type("L").x.mark(1);
        b.x.strict(true);
        return b;
    }

    /** Likewise with a fault's place in the place of fields. */
    private static Bench faulty() {
        return rich().faults("a=2 '", 1, 4);
    }

    private static void refused(String what, ToIntFunction<Bench> call) {
        Bench.refused(what, RefusedCallsTest::rich, call);
        Bench.refused(what + ", a fault before", RefusedCallsTest::faulty, call);
    }

    private static Bench blanks(int feeds) {
        Bench b = rich();
        for (int i = 0; i < feeds; i++) {
            b.x.feed(0x61202020, 0x20202020, 0x20202020, 0x20202020, 0x20202020);
        }
        return b;
    }

    private static void feed() {
        Bench.same("a feed up to 520", blanks(25).x.feed(0, 0, 0, 0, 0), 520);
        Supplier<Bench> full = () -> blanks(26);
        Bench.refused("a feed beyond 520", full, b -> b.x.feed(0, 0, 0, 0, 0));
        Bench.refused("a feed up to 521", () -> blanks(26).ends(1, 501), b -> b.x.feed(0, 0, 0, 0, 0));
        Bench.refused("a feed up to 539", () -> blanks(26).ends(19, 519), b -> b.x.feed(-1, -1, -1, -1, -1));
        Bench b = blanks(26);
        b.x.feed(0x62626262, 0x62626262, 0x62626262, 0x62626262, 0x62626262);
        Bench.same("without the last twenty", b.x.end(0), 500);
        Bench.same("what was collected before", b.x.line(), 25);
        Bench.same("its bytes", b.fields(), Bench.times("[a]", 25));
    }

    private static void end() {
        Supplier<Bench> some = () -> rich().type("'abcdefghijklmnopqrstuv' x");
        for (int n : new int[] {-1, 21, -20, 40}) {
            Bench.refused("end(" + n + ")", some, b -> b.x.end(n));
        }
        for (int n : FAR) {
            Bench.refused("end(" + n + ")", some, b -> b.x.end(n));
        }
        Supplier<Bench> fewer = () -> rich().type("abcdefghijklmnopqrs");
        for (int n : new int[] {0, 1, 19, 20}) {
            Bench.refused("end(" + n + ") of nineteen", fewer, b -> b.x.end(n));
            Bench.refused("end(" + n + ") of none", RefusedCallsTest::rich, b -> b.x.end(n));
            Bench.same("end(" + n + ") of twenty", rich().type("abcdefghijklmnopqrst").x.end(n), n);
            Bench.same("end(" + n + ") of 26", some.get().x.end(n), 6 + n);
        }
    }

    private static void line() {
        for (int bad : new int[] {0, 1, 8, 11, 12, 13, 31, 127, 128, 160, 255}) {
            refused("a line with the byte " + bad, b -> b.line("a=9 " + (char) bad));
            refused("a line that begins with the byte " + bad, b -> b.line((char) bad + " a=9"));
            refused("a line with the byte " + bad + " in quotes", b -> b.line("a=9 '" + (char) bad + "'"));
            refused("a faulty line with the byte " + bad, b -> b.line("'" + (char) bad));
        }
        for (int size : new int[] {501, 502, 519, 520}) {
            refused("a line of " + size, b -> b.line("a=9" + Bench.times(" ", size - 3)));
        }
        Bench.same("a line of 500", rich().line("a=9" + Bench.times(" ", 497)), 0);
        rich().gives("a=9" + Bench.times(" ", 497), "").has("a", "9");
        for (int good : new int[] {9, 10, 32, 33, 125, 126}) {
            Bench.same("a line with the byte " + good, rich().line("'" + (char) good + "'"), 1);
        }
    }

    private static void fieldsAndBytes() {
        for (int i : new int[] {-1, 3, 4, 63, 64}) {
            refused("field(" + i + ")", b -> b.x.field(i));
            refused("byteOf(" + i + ", 0)", b -> b.x.byteOf(i, 0));
        }
        for (int i : FAR) {
            refused("field(" + i + ")", b -> b.x.field(i));
            refused("byteOf(" + i + ", 0)", b -> b.x.byteOf(i, 0));
            refused("byteOf(0, " + i + ")", b -> b.x.byteOf(0, i));
        }
        for (int[] at : new int[][] {{0, -1}, {0, 3}, {1, 5}, {2, -1}, {2, 0}}) {
            refused("byteOf(" + at[0] + ", " + at[1] + ")", b -> b.x.byteOf(at[0], at[1]));
        }
        Bench b = rich();
        Bench.same("field(0)", b.x.field(0), 3);
        Bench.same("field(1)", b.x.field(1), 5);
        Bench.same("field(2)", b.x.field(2), 0);
        Bench.same("byteOf(0, 0)", b.x.byteOf(0, 0), (int) 'o');
        Bench.same("byteOf(0, 2)", b.x.byteOf(0, 2), (int) 'e');
        Bench.same("byteOf(1, 4)", b.x.byteOf(1, 4), (int) '2');
        Bench.same("64 fields", b.line(Bench.times("a ", 63) + "bc"), 64);
        Bench.same("field(63)", b.x.field(63), 2);
        Bench.same("byteOf(63, 1)", b.x.byteOf(63, 1), (int) 'c');
        Bench.same("field(64)", b.x.field(64), BAD);
        Bench.same("byteOf(63, 2)", b.x.byteOf(63, 2), BAD);
    }

    private static void message() {
        for (int k : new int[] {-2, 11, 12, 299, 300}) {
            refused("message(" + k + ")", b -> b.x.message(k));
        }
        for (int k : FAR) {
            refused("message(" + k + ")", b -> b.x.message(k));
        }
        Bench b = rich();
        Bench.same("message(-1)", b.x.message(-1), 11);
        Bench.same("message(0)", b.x.message(0), (int) 't');
        Bench.same("message(10)", b.x.message(10), (int) 'e');
        for (int k : new int[] {-2, -1, 0, 1}) {
            Bench.refused("message(" + k + ") without one", () -> new Bench().errs("$((1/0))", 4), c -> c.x.message(k));
        }
        b.errs("${n?}", 2);
        Bench.same("an empty one", b.x.message(-1), 0);
        Bench.same("its first byte", b.x.message(0), BAD);
    }

    private static void value() {
        for (String text : new String[] {"", "1", "1a", "a b", " a", "a ", "a-b", "a=", "a=1", "a.", "$a", "@", "#", "*", "longname9", "a\n", "a\1", "\377", "a\0"}) {
            refused("value of " + text, b -> b.value(text));
        }
        refused("value of 520 bytes", b -> b.value(Bench.times("a", 520)));
        for (Bench b : new Bench[] {rich(), faulty()}) {
            String before = b.face();
            Bench.same("value of n", b.value("n"), NONE);
            Bench.same("all stays", b.face(), before);
            Bench.same("value of longname", b.value("longname"), NONE);
            Bench.same("all stays", b.face(), before);
            int place = b.x.place();
            Bench.same("value of c", b.value("c"), 3);
            Bench.same("the one field", b.fields(), "[x y]");
            Bench.same("how many", b.x.count(5), 1);
            Bench.same("the place stays", b.x.place(), place);
            Bench.same("the message stays", b.message(), "the message");
            Bench.same("value of b", b.value("b"), 0);
            Bench.same("the one field, empty", b.fields(), "[]");
        }
        new Bench().gives("_=1 longname=2 Z_9=3 z=4 A=5", "").has("_", "1").has("longname", "2").has("Z_9", "3").has("z", "4").has("A", "5");
    }

    private static void parameter() {
        for (int bad : new int[] {0, 8, 11, 31, 127, 255}) {
            refused("a parameter with the byte " + bad, b -> b.type("x" + (char) bad).x.parameter());
            refused("a parameter that begins with the byte " + bad, b -> b.type((char) bad + "x").x.parameter());
        }
        refused("a parameter of 301", b -> b.type(Bench.times("x", 301)).x.parameter());
        refused("a parameter of 520", b -> b.type(Bench.times("x", 520)).x.parameter());
        Bench.same("of 300", rich().type(Bench.times("x", 300)).x.parameter(), 4);
        Bench.same("of none", rich().x.parameter(), 4);
        for (int good : new int[] {9, 10, 32, 126}) {
            Bench b = rich();
            Bench.same("with the byte " + good, b.type("" + (char) good).x.parameter(), 4);
            b.gives("\"$4\"", "[" + (char) good + "]");
        }
        Bench.same("the twentieth", with(19).type("x").x.parameter(), 20);
        Bench.refused("the 21st", () -> with(20), b -> b.type("x").x.parameter());
        Bench.refused("the 21st, empty", () -> with(20), b -> b.x.parameter());
    }

    private static Bench with(int parameters) {
        return rich().parameters(Bench.names("p", parameters).toArray(new String[0]));
    }

    private static void shift() {
        for (int n : new int[] {-1, -2, 4, 5, 20}) {
            refused("shift(" + n + ") of three", b -> b.x.shift(n));
        }
        for (int n : FAR) {
            refused("shift(" + n + ")", b -> b.x.shift(n));
        }
        Bench.refused("shift(1) of none", () -> with(0), b -> b.x.shift(1));
        Bench.refused("shift(21) of twenty", () -> with(20), b -> b.x.shift(21));
        Bench.same("shift(0) of none", with(0).x.shift(0), 0);
        Bench.same("shift(0)", rich().x.shift(0), 3);
        Bench.same("shift(0) changes nothing", after(rich(), b -> b.x.shift(0)).whole(), rich().whole());
        Bench b = rich();
        Bench.same("shift(3) of three", b.x.shift(3), 0);
        b.x.strict(false);
        b.gives("${1-none}", "[none]");
        Bench c = with(20);
        Bench.same("shift(19)", c.x.shift(19), 1);
        c.gives("$@", "[p19]");
        Bench.same("shift(20) of twenty", with(20).x.shift(20), 0);
    }

    private static Bench after(Bench b, ToIntFunction<Bench> call) {
        call.applyAsInt(b);
        return b;
    }

    private static void mark() {
        for (int what : new int[] {0, 1}) {
            for (String text : new String[] {"", "1", "a b", "a=1", "longname9", "a\n", "a\1", "\377"}) {
                refused("mark(" + what + ") of " + text, b -> b.type(text).x.mark(what));
            }
        }
        for (int what : new int[] {-1, 2, 3}) {
            refused("mark(" + what + ")", b -> b.type("a").x.mark(what));
        }
        for (int what : FAR) {
            refused("mark(" + what + ")", b -> b.type("a").x.mark(what));
        }
        refused("mark(0) of a LOCKED one", b -> b.type("L").x.mark(0));
        Bench.refused("mark(0) of a LOCKED one that is not set", () -> locks(1), b -> b.type("l0").x.mark(0));
        Bench.refused("a 31st LOCKED one", () -> locks(30), b -> b.type("a").x.mark(1));
        Bench.same("the 30th LOCKED one", locks(29).type("a").x.mark(1), 1);
        Bench.same("one of the 30", locks(30).type("l29").x.mark(1), 0);
        Bench.same("mark(1) again changes nothing", after(rich(), b -> b.type("L").x.mark(1)).whole(), rich().whole());
        Bench.same("mark(0) of what is not set changes nothing", after(rich(), b -> b.type("n").x.mark(0)).whole(), rich().whole());
        Bench.same("mark(0) of an empty one", rich().type("b").x.mark(0), 1);
        Bench.same("mark(0) of longname", rich().type("longname").x.mark(0), 0);
    }

    private static Bench locks(int many) {
        Bench b = new Bench().gives("a=1 x", "[x]");
        for (String name : Bench.names("l", many)) {
            Bench.same("mark(1) of " + name, b.type(name).x.mark(1), 1);
        }
        return b;
    }

    private static void user() {
        for (String text : new String[] {"", "u", "=", "=/x", "1=x", "u v=x", " u=x", "u =x", "u-=x", "longname9=x", "u\n=x", "$u=x"}) {
            refused("user " + text, b -> b.type(text).x.user());
        }
        for (int bad : new int[] {0, 8, 11, 31, 127, 255}) {
            refused("a path with the byte " + bad, b -> b.type("u=/x" + (char) bad).x.user());
            refused("a path that begins with the byte " + bad, b -> b.type("u=" + (char) bad + "x").x.user());
        }
        refused("a path of 101", b -> b.type("u=" + Bench.times("p", 101)).x.user());
        refused("a path of 101 for a longer NAME", b -> b.type("longname=" + Bench.times("p", 101)).x.user());
        Bench.refused("a ninth user", () -> users(8), b -> b.type("longname=x").x.user());
        Bench.same("an eighth user", users(7).type("longname=x").x.user(), 8);
        Bench b = users(8);
        Bench.same("one of the eight", b.type("u7=other").x.user(), 8);
        b.gives("~u7 ~u6", "[other][/6]");
        for (String path : new String[] {"", " ", "=", "a=b", "\t\n~", Bench.times("p", 100)}) {
            Bench c = rich();
            Bench.same("the path " + path, c.type("longname=" + path).x.user(), 3);
            c.gives("x~longname ~longname/x", "[x~longname][" + path + "/x]");
        }
    }

    private static Bench users(int many) {
        Bench b = new Bench().gives("x", "[x]");
        for (int i = 0; i < many; i++) {
            Bench.same("user " + i, b.type("u" + i + "=/" + i).x.user(), i + 1);
        }
        return b;
    }

    private static final String[] NO_PATHS = {"", "g", "gg", "xd", "xd/e", "xf", "d/g", "//", "//g", "/d//g", "/g/", "/d/g/", "/.", "/..", "/./g", "/../g", "/d/.", "/d/..",
        "/12345678901", "/d/12345678901", "/12345678901/g", "/\1g", "/g\1", "/d/\1g", "/g\0", "/\13", "/\37", "/\177", "/\377", " /g"};

    private static void make() {
        for (int kind : new int[] {0, 1}) {
            for (String path : NO_PATHS) {
                refused("make(" + kind + ") " + path, b -> b.type(path).x.make(kind));
            }
            for (String path : new String[] {"/", "/d", "/f", "/d/a", "/d/e", "/f/g", "/d/a/g", "/g/h", "/d/g/h", "/f/g/h"}) {
                refused("make(" + kind + ") " + path, b -> b.type(path).x.make(kind));
            }
            Bench.refused("an 81st", () -> tree(80), b -> b.type("/g").x.make(kind));
            Bench.same("the 80th", tree(79).type("/g").x.make(kind), 80);
            for (String path : new String[] {"/g", "/1234567890", "/d/1234567890", "/...", "/.g", "/..g", "/d/e/g", "/D", "/ ", "/\t", "/\n", "/~", "/*", "/d/f"}) {
                Bench.same("make(" + kind + ") " + path, rich().type(path).x.make(kind), 8);
            }
        }
        for (int kind : new int[] {-1, 2, 3}) {
            refused("make(" + kind + ")", b -> b.type("/g").x.make(kind));
        }
        for (int kind : FAR) {
            refused("make(" + kind + ")", b -> b.type("/g").x.make(kind));
        }
    }

    private static Bench tree(int many) {
        Bench b = new Bench().gives("x", "[x]");
        for (int i = 2; i <= many; i++) {
            Bench.same("make " + i, b.type("/n" + i).x.make(i % 2), i);
        }
        return b;
    }

    private static void drop() {
        for (String path : NO_PATHS) {
            refused("drop " + path, b -> b.type(path).x.drop());
        }
        for (String path : new String[] {"/", "/g", "/d/g", "/f/g", "/a", "/D", "/d/e"}) {
            refused("drop " + path, b -> b.type(path).x.drop());
        }
        refused("drop the CURRENT one, with something in it", b -> b.type("/d").x.drop());
        Bench.refused("drop the CURRENT one, empty", () -> at("/d/g"), b -> b.type("/d/g").x.drop());
        Bench.refused("drop what the CURRENT one lies in", () -> at("/d/g"), b -> b.type("/d").x.drop());
        Bench left = at("/d/g");
        left.type("/d").x.go();
        Bench.same("drop it when it is not", left.type("/d/g").x.drop(), 7);
        Bench b = rich();
        Bench.same("drop a file", b.type("/d/e/x").x.drop(), 6);
        Bench.same("drop a directory that is empty now", b.type("/d/e").x.drop(), 5);
        Bench.same("drop what is gone", b.type("/d/e").x.drop(), BAD);
        Bench.same("drop in the root", b.type("/f").x.drop(), 4);
    }

    private static Bench at(String path) {
        Bench b = rich().tree(path + "/");
        Bench.same("go " + path, b.type(path).x.go(), 0);
        return b;
    }

    private static void go() {
        for (String path : NO_PATHS) {
            refused("go " + path, b -> b.type(path).x.go());
        }
        for (String path : new String[] {"/g", "/f", "/d/a", "/d/g", "/f/g", "/e", "e", "/d/", "/d/e/", "/d/e/x", "///"}) {
            refused("go " + path, b -> b.type(path).x.go());
        }
        for (String path : new String[] {"/", "/d", "/d/e"}) {
            Bench.same("go " + path, rich().type(path).x.go(), 0);
        }
        Bench.same("go where one is", after(rich(), b -> b.type("/d").x.go()).whole(), rich().whole());
        Bench b = rich();
        b.type("/").x.go();
        b.gives("*", "[d][f]");
    }

    private static void count() {
        for (int what : new int[] {-2, -1, 7, 8}) {
            refused("count(" + what + ")", b -> b.x.count(what));
        }
        for (int what : FAR) {
            refused("count(" + what + ")", b -> b.x.count(what));
        }
        Bench b = rich().type("abc");
        int[] due = {3, 4, 3, 7, 2, 3, 1};
        for (int what = 0; what < due.length; what++) {
            Bench.same("count(" + what + ")", b.x.count(what), due[what]);
        }
    }
}
