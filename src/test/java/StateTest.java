/** Promises 9 (value), 10 (parameter), 11 (shift), 12 (mark), 13 (strict) and 14 (user). */
public final class StateTest {
    private static final String[] NO_NAMES = {"", "1", "1a", "a b", "a=", "a-", " a", "longname9", "a\n", "$a", "\1", "a\200"};

    public static void main(String[] args) {
        values();
        parameters();
        shifts();
        unsetting();
        locking();
        strictness();
        users();
        Bench.close();
    }

    private static void values() {
        Bench b = new Bench().gives("a=xyz e= longname=1 _9Z=2 A=3 x y", "[x][y]");
        Bench.same("not set", b.value("none"), -2);
        Bench.same("fields stay", b.fields(), "[x][y]");
        for (String bad : NO_NAMES) {
            Bench.same("value of " + bad, b.value(bad), -1);
        }
        Bench.same("fields stay", b.fields(), "[x][y]");
        Bench.same("value", b.value("a"), 3);
        Bench.same("the one field", b.x.count(5), 1);
        Bench.same("its bytes", b.fields(), "[xyz]");
        b.has("e", "").has("longname", "1").has("_9Z", "2").has("A", "3");
        Bench.same("empty", b.value("e"), 0);
        b.gives("b='" + Bench.times("q", 300) + "'", "");
        Bench.same("long", b.value("b"), 300);
    }

    private static void parameters() {
        Bench b = new Bench();
        Bench.same("empty", b.x.parameter(), 1);
        Bench.same("300 bytes", b.type(Bench.times("p", 300)).x.parameter(), 2);
        Bench.same("301 bytes", b.type(Bench.times("p", 301)).x.parameter(), -1);
        Bench.same("none", b.type("a\r").x.parameter(), -1);
        Bench.same("how many", b.x.count(2), 2);
        for (int i = 3; i <= 20; i++) {
            Bench.same("parameter", b.type("v" + i).x.parameter(), i);
        }
        Bench.same("the 21st", b.type("x").x.parameter(), -1);
        b.gives("${#1} ${#2} $3 ${20} $#", "[0][300][v3][v20][20]");
    }

    private static void shifts() {
        Bench b = new Bench().parameters("a", "b", "c", "d");
        Bench.same("shift(0)", b.x.shift(0), 4);
        Bench.same("shift(5)", b.x.shift(5), -1);
        Bench.same("shift(-1)", b.x.shift(-1), -1);
        Bench.same("shift(max)", b.x.shift(Integer.MAX_VALUE), -1);
        Bench.same("shift(min)", b.x.shift(Integer.MIN_VALUE), -1);
        b.gives("$@", "[a][b][c][d]");
        Bench.same("shift(1)", b.x.shift(1), 3);
        b.gives("$1 $# $@ ${4-x}", "[b][3][b][c][d][x]");
        Bench.same("shift(2)", b.x.shift(2), 1);
        b.gives("$1", "[d]");
        Bench.same("parameter", b.type("e").x.parameter(), 2);
        b.gives("$@", "[d][e]");
        Bench.same("shift(2)", b.x.shift(2), 0);
        Bench.same("shift(1)", b.x.shift(1), -1);
        Bench.same("shift(0)", b.x.shift(0), 0);
    }

    private static void unsetting() {
        Bench b = new Bench().gives("a=1 b=2 c=3 e=", "");
        Bench.same("mark(0)", b.type("a").x.mark(0), 1);
        Bench.same("again", b.type("a").x.mark(0), 0);
        Bench.same("an empty one", b.type("e").x.mark(0), 1);
        Bench.same("never set", b.type("z").x.mark(0), 0);
        Bench.same("left", b.x.count(1), 2);
        b.has("a", null).has("b", "2").has("c", "3").gives("${a-x} ${a+y} $b$c", "[x][23]");
        for (String bad : NO_NAMES) {
            Bench.same("mark(0) " + bad, b.type(bad).x.mark(0), -1);
            Bench.same("mark(1) " + bad, b.type(bad).x.mark(1), -1);
        }
        for (int what : new int[] {-1, 2, 3, Integer.MIN_VALUE}) {
            Bench.same("mark(" + what + ")", b.type("b").x.mark(what), -1);
        }
        b.has("b", "2").gives("b=4", "");
        Bench.same("fields stay", b.line("x"), 1);
        b.type("b").x.mark(0);
        Bench.same("fields stay", b.fields(), "[x]");
    }

    private static void locking() {
        Bench b = new Bench().gives("a=1", "");
        Bench.same("mark(1)", b.type("a").x.mark(1), 1);
        Bench.same("again", b.type("a").x.mark(1), 0);
        Bench.same("not set", b.type("n").x.mark(1), 1);
        Bench.same("mark(0) of a locked one", b.type("a").x.mark(0), -1);
        Bench.same("mark(0) of a locked one that is not set", b.type("n").x.mark(0), -1);
        b.has("a", "1").errs("a=2", 6).errs("n=2", 6);
        for (int i = 2; i < 30; i++) {
            Bench.same("mark(1)", b.type("l" + i).x.mark(1), 1);
        }
        Bench.same("30", b.x.count(6), 30);
        Bench.same("the 31st", b.type("more").x.mark(1), -1);
        Bench.same("one of the 30", b.type("l29").x.mark(1), 0);
        b.gives("more=1", "").errs("l29=1", 6);
    }

    private static void strictness() {
        Bench b = new Bench();
        Bench.same("strict(true)", b.x.strict(true), 0);
        Bench.same("strict(true)", b.x.strict(true), 1);
        b.errs("$n", 1);
        Bench.same("strict(false)", b.x.strict(false), 1);
        Bench.same("strict(false)", b.x.strict(false), 0);
        b.gives("$n", "");
    }

    private static void users() {
        Bench b = new Bench();
        Bench.same("user", b.type("u=/us").x.user(), 1);
        Bench.same("another path", b.type("u=/other").x.user(), 1);
        Bench.same("no path", b.type("v=").x.user(), 2);
        Bench.same("an = in it", b.type("w=a=b /\n").x.user(), 3);
        Bench.same("100 bytes", b.type("longname=" + Bench.times("p", 100)).x.user(), 4);
        b.gives("~u ~v ~w ~longname", "[/other][a=b /\n][" + Bench.times("p", 100) + "]");
        for (String bad : new String[] {"", "u", "=", "=x", "1=x", "a b=x", "longname9=x", "u =x", "u=\1", "u=" + Bench.times("p", 101), "\"u\"=x"}) {
            Bench.same("user " + bad, b.type(bad).x.user(), -1);
        }
        for (int i = 5; i <= 8; i++) {
            Bench.same("user", b.type("u" + i + "=" + i).x.user(), i);
        }
        Bench.same("the ninth", b.type("u9=9").x.user(), -1);
        Bench.same("one of the eight", b.type("u8=x").x.user(), 8);
        b.gives("~u8 ~u9 ~u", "[x][~u9][/other]");
        Bench.same("users are no variables", b.value("u"), -2);
    }
}
