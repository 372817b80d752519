/** What came before must not show: bytes that end cut off, calls and lines before, names that went. */
public final class NothingOldTest {
    private static final String[] TAILS = {"'", "\"", "}", ")", "))", "=x", "=", "a", "1", "\\", "$", ":-w}", "/", "~", "]", " ", "\n", "`", "-", "b=5"};

    public static void main(String[] args) {
        whatEndCutsOff();
        linesBefore();
        reachesBefore();
        wordsBefore();
        patternsBefore();
        parametersBefore();
        variablesBefore();
        namesBefore();
        Bench.close();
    }

    /** Collects a text that end has cut from a longer one. */
    private static Bench cut(Bench b, String text, String tail) {
        String all = text + tail + Bench.times(" ", 40);
        int feeds = text.length() / 20 + 1;
        b.type(all.substring(0, feeds * 20));
        return b.ends(text.length() % 20, text.length());
    }

    private static Bench made() {
        Bench b = new Bench().gives("a=12 ab=7 HOME=/h", "").parameters("p", "q").tree("/a/", "/a/b", "/ab");
        b.type("u=/us").x.user();
        return b;
    }

    /** "Of the last twenty bytes .. the first n stay": the others are gone. */
    private static void whatEndCutsOff() {
        String[] lines = {"", "a", "$a", "$", "${a", "${a-", "${a:", "${#", "${1", "$1", "$((a", "$((1", "$((1)", "$((a)", "'", "'x", "\"", "\"x", "\\", "a\\", "~", "~u", "a=", "a=~", "a=~u", "b", "a=1", "*", "[a", "a*",
            "a/*", "$((", "$(", "${a#", "${longnam", "$longnam", "$longname", "x y"};
        for (String line : lines) {
            Bench due = made();
            int answer = due.line(line);
            for (String tail : TAILS) {
                Bench b = cut(made(), line, tail);
                Bench.same(line + " cut from " + line + tail, b.x.line(), answer);
                Bench.same("all behind " + line, b.face() + b.value("a") + b.fields(), due(line));
            }
        }
        for (String tail : TAILS) {
            Bench.same("a cut user", cut(made(), "u", tail + "=/x").x.user(), LineExpander.BAD);
            Bench.same("a cut user", cut(made(), "u", "=/x").x.user(), LineExpander.BAD);
            Bench.same("a cut path", cut(made(), "v=", tail).x.user(), 2);
            Bench.same("a cut NAME", cut(made(), "a", tail).x.value(), 2);
            Bench.same("a cut NAME", cut(made(), "", "a" + tail).x.value(), LineExpander.BAD);
            Bench.same("a cut NAME", cut(made(), "a", "b").x.mark(0), 1);
            Bench.same("a cut directory", cut(made(), "/a", tail).x.go(), 0);
            Bench.same("a cut directory", cut(made(), "/", "a").x.go(), 0);
            Bench.same("a cut directory", cut(made(), "", "/a").x.go(), LineExpander.BAD);
            Bench.same("a cut file", cut(made(), "/ab", tail).x.drop(), 3);
            Bench.same("a cut name", cut(made(), "/c", tail).x.make(0), 5);
            Bench.same("a cut name", cut(made(), "/", "c").x.make(0), LineExpander.BAD);
            Bench b = cut(made(), "r", tail);
            Bench.same("a cut parameter", b.x.parameter(), 3);
            b.gives("$3", "[r]");
        }
    }

    private static String due(String line) {
        Bench b = made();
        b.line(line);
        return b.face() + b.value("a") + b.fields();
    }

    private static void linesBefore() {
        String[] faulty = {"$(((1", "$((((((", "${a-$((((", "a 'b", "a=1 b=\"c", "x ${a-${a-${a-${a-${a-${a-${a}", "\"${a-\"", "a `", "\"${a#\"${a#\"${a#'"};
        for (String line : faulty) {
            Bench b = new Bench();
            Bench.same(line, b.line(line) <= -11, true);
            b.gives(" b=2 $((1)) $((($b)))", "[1][2]").has("b", "2");
            Bench.same(line, b.line(line) <= -11, true);
            b.gives("\tc=3", "").has("c", "3").gives("${n-${n-${n-${n-${n-${n-x}}}}}}", "[x]");
        }
        for (String error : new String[] {"x${n?}", "$((1/0))", "'' x ${n?m}", "\"$@\"${n?}", "* ? ${n?}", "y${n-a b ${n?}}", "${v#*[a${n?}}", "${1=x}"}) {
            Bench b = new Bench();
            Bench.same(error, b.line(error) <= -21, true);
            b.gives("a", "[a]").gives("$n", "").gives(" b=2", "").has("b", "2");
        }
        new Bench().gives(" a=1", "").has("a", "1").gives("\n\tb=2 c", "[c]").has("b", "2");
        new Bench().gives("v=abcdef \"${v%\"${v#\"${v%\"${v#\"${v%\"${v#\"a\"}\"}\"}\"}\"}\"}\" y", "[a][y]");
    }

    private static void reachesBefore() {
        new Bench().gives("$((5)) $(( )) $((7))$(())", "[5][0][70]").gives("$((b=5)) $((b)) $((b+=1)) $((b)) $((b))", "[5][5][6][6][6]").gives("$((11111)) $((1)) $((b==6)) $((b))", "[11111][1][1][6]");
        new Bench().gives("$((1?2:3)) $((1)) $((4)) $(($((2))$((0))))", "[2][1][4][20]").errs("$((1+))", 4).gives("$((2))", "[2]");
    }

    /** A word's fields come of that word alone. */
    private static void wordsBefore() {
        Bench b = new Bench().gives("IFS=' ,' w=' ' c='x,' d='x ,y' e=", "");
        b.gives("$c $w", "[x]").gives("$c$w $w", "[x]").gives("$d $w $e", "[x][y]").gives("'' $w", "[]").gives("\"$c\" $e", "[x,]").gives("$d$d $w$w", "[x][yx][y]");
        b.parameters("a", "b").gives("$@ $w", "[a][b]").gives("\"$@\" $e", "[a][b]").gives("x$@ $w$w", "[xa][b]");
    }

    private static void patternsBefore() {
        Bench b = new Bench().gives("v=ab w='[' x=a-", "");
        b.gives("${v#[ab]} ${w#[}. ${v#a]} ${v#?}", "[b][.][ab][b]").gives("${v#*[!x-z]} ${w#[!}. ${x#[a}. ${x%[!-]}", "[b][[.][a-.][a-]").gives("${v##[a-z][a-z]}. ${v#a} ${v##}", "[.][b][ab]");
        b.tree("/a/", "/a/b", "/c").gives("*/* *", "[a/b][a][c]").gives("a/*/../* c*", "[a/*/../*][c]").gives(".././a/* ?", "[.././a/b][a][c]");
    }

    private static void parametersBefore() {
        Bench b = new Bench().parameters("a", "bcd", "e");
        b.x.shift(1);
        b.gives("\"$3\" \"${3}\" ${#3} ${3-none} $1 $2", "[][][0][none][bcd][e]").gives("\"$@\" $#", "[bcd][e][2]");
        b.x.shift(2);
        b.gives("\"$1\" ${#1} ${1:-none}", "[][0][none]").parameters("", "x").gives("\"$1\" $2 ${#1}", "[][x][0]");
    }

    private static void variablesBefore() {
        Bench b = new Bench().gives("a=1 longname=22 bc=333 def=", "");
        Bench.same("mark(0)", b.type("a").x.mark(0), 1);
        b.has("a", null).has("longname", "22").has("bc", "333").has("def", "").gives("g=4444", "").has("g", "4444").has("longname", "22");
        Bench.same("mark(0)", b.type("bc").x.mark(0), 1);
        b.has("bc", null).has("longname", "22").has("def", "").has("g", "4444").gives("a=5 bc=", "").has("a", "5").has("bc", "").has("longname", "22").has("g", "4444");
        b.gives("longname=x", "").has("longname", "x").gives("longname=", "").has("longname", "").gives("longname=yyy", "").has("longname", "yyy").has("g", "4444");
        b.type("u=/longer").x.user();
        b.type("u=/s").x.user();
        b.gives("~u", "[/s]");
    }

    private static void namesBefore() {
        Bench b = new Bench();
        Bench.same("make", b.type("/ab").x.make(1), 2);
        Bench.same("drop the first", b.type("/ab").x.drop(), 1);
        Bench.same("make", b.type("/a").x.make(0), 2);
        Bench.same("make", b.type("/b").x.make(0), 3);
        b.gives("* a? */", "[a][b][a?][a/][b/]");
        Bench.same("a cut path", cut(b, "/a", "b").x.go(), 0);
        b.type("/").x.go();
        Bench.same("drop the first", b.type("/a").x.drop(), 2);
        Bench.same("make in a later one", b.type("/b/c").x.make(1), 3);
        Bench.same("drop with something in it", b.type("/b").x.drop(), LineExpander.BAD);
        b.gives("*/* *", "[b/c][b]");
        Bench.same("drop", b.type("/b/c").x.drop(), 2);
        Bench.same("drop", b.type("/b").x.drop(), 1);
        b.gives("*", "[*]");
    }
}
