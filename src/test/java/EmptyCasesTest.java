/** What is empty: lines, quotes, IFS, HOME, parameters, values, w, REACHES, parts of a path; each beside what is not. */
public final class EmptyCasesTest {
    public static void main(String[] args) {
        emptyLine();
        emptyQuotes();
        emptyIfs();
        emptyHome();
        emptyPathOfAUser();
        noParameters();
        emptyParameters();
        emptyValue();
        emptyW();
        blankReaches();
        emptyParts();
        emptySets();
        Bench.close();
    }

    private static void emptyLine() {
        for (String line : new String[] {"", " ", "\t", "\n", " \t\n ", "\\\n", " \\\n \\\n", "$n", "$n ${n} $@", "a=1"}) {
            Bench b = new Bench().gives("x y", "[x][y]").gives(line, "");
            Bench.same("field(0) behind " + line, b.x.field(0), LineExpander.BAD);
            b.faults("'", 1, 0).gives(line, "");
        }
    }

    /** "Of quotes with nothing between stays that they stood there." */
    private static void emptyQuotes() {
        Bench b = new Bench().gives("e= v=ab", "");
        for (String quotes : new String[] {"''", "\"\"", "\"\\\n\"", "\"$e\"", "\"$n\"", "\"${n}\"", "\"${n-}\"", "\"${v+}\"", "\"$*\"", "''\"\"", "'''' ".trim()}) {
            b.gives(quotes, "[]").gives("$n" + quotes + "$e", "[]").gives("a " + quotes + " b", "[a][][b]").gives("a" + quotes + "b", "[ab]").gives("${n-" + quotes + "}", "[]");
            b.gives("s=" + quotes, "").has("s", "").gives("s=x" + quotes + "y", "").has("s", "xy");
            b.gives("${v#" + quotes + "} ${v%%" + quotes + "}", "[ab][ab]").gives("${v+" + quotes + "}", "[]");
        }
        b.gives("$n $e ${n-} ${v+} ${n}$e", "").gives("${n-$n} ${n-$e$e}", "");
        b.gives("w=' ' ''$w'' $w''", "[][][]").gives("$w $w$w", "").gives("$w\"$n\"$w", "[]");
    }

    /** "none, if it is empty"; "by nothing, if it is empty". */
    private static void emptyIfs() {
        Bench b = new Bench().gives("v=' a\tb\n '", "").parameters("p q", "", "r");
        b.gives("$v \"$*\" $* $@", "[a][b][p q  r][p][q][r][p][q][r]");
        b.gives("IFS=", "").gives("$v", "[ a\tb\n ]").gives("\"$*\"", "[p qr]").gives("$*", "[p q][r]").gives("$@", "[p q][r]").gives("\"$@\"", "[p q][][r]");
        b.gives("x${v}y x$@y ${n-a b}", "[x a\tb\n y][xp q][ry][a b]").gives("s=$* t=$@ u=\"$*\"", "").has("s", "p qr").has("t", "p q  r").has("u", "p qr");
        b.gives("${n- } ${n-\t}", "[ ][\t]").gives("a b\tc", "[a][b][c]").gives("$n ${n-}", "");
        b.type("IFS").x.mark(0);
        b.gives("$v \"$*\" $@", "[a][b][p q  r][p][q][r]");
        b.gives("IFS=''", "").gives("$v", "[ a\tb\n ]").gives("IFS=$n", "").gives("$v", "[ a\tb\n ]");
    }

    /** "What it gives is quoted (nothing, if that is empty: no quotes stood there)." */
    private static void emptyHome() {
        Bench b = new Bench();
        b.gives("~ ~/x", "[~][~/x]").gives("a=~ b=~:~/y", "").has("a", "~").has("b", "~:~/y");
        b.gives("HOME=", "").gives("~", "").gives("~ x ~", "[x]").gives("~/x ~/", "[/x][/]").gives("a=~ b=~:~/y c=:~:", "").has("a", "").has("b", ":/y").has("c", "::");
        b.gives("\"~\" ~x", "[~][~x]").gives("HOME='' ~", "").gives("HOME=/h ~", "[/h]");
        b.type("HOME").x.mark(0);
        b.gives("~", "[~]");
    }

    private static void emptyPathOfAUser() {
        Bench b = new Bench();
        b.gives("~u ~u/x", "[~u][~u/x]").type("u=").x.user();
        b.gives("~u", "").gives("~u/x a ~u", "[/x][a]").gives("a=~u b=~u:~u/y", "").has("a", "").has("b", ":/y");
        b.type("u=p").x.user();
        b.gives("~u", "[p]");
    }

    /** "if there are none: nothing, and these quotes .. count as if they did not stand there". */
    private static void noParameters() {
        Bench b = new Bench();
        b.gives("$@", "").gives("$*", "").gives("\"$@\"", "").gives("\"${@}\"", "").gives("\"$*\"", "[]").gives("\"$@$@\"", "").gives("$#", "[0]").gives("${#} ${#@} ${#*} ${##}", "[0][0][0][1]");
        b.gives("x\"$@\"y x$@y x$*y x\"$*\"y", "[xy][xy][xy][xy]").gives("''\"$@\" \"$@\"''", "[][]").gives("\"x$@\" \"$@x\"", "[x][x]").gives("\"$@\" a \"$@\"", "[a]");
        b.gives("${@-w} ${*-w} ${@:-w} ${*:-w} ${1-w} ${20:-w}", "[w][w][w][w][w][w]").gives("${@+w} ${*+w} ${@:+w} ${*:+w} ${1+w}", "").gives("${#-w} ${#:-w} ${#+w} ${#:+w}", "[0][0][w][w]");
        b.gives("a=$@ b=\"$@\" c=$* d=\"$*\"", "").has("a", "").has("b", "").has("c", "").has("d", "").gives("$(($@))", "[0]");
        b.errs("${@?m}", 2).errs("${*:?m}", 2).errs("${@=w}", 3).errs("${*=w}", 3).errs("${1=w}", 3).gives("${#?m} ${#=w}", "[0][0]");
        b.x.strict(true);
        b.gives("$@ $* \"$@\" $# ${@} ${#@} ${#*} ${#}", "[0][0][0][0]").errs("$1", 1).errs("${1}", 1).errs("${#1}", 1).errs("${1#x}", 1);
    }

    private static void emptyParameters() {
        Bench b = new Bench().parameters("");
        b.gives("$@ $* $1", "").gives("\"$@\"", "[]").gives("\"$*\" \"$1\"", "[][]").gives("$# ${#1} ${#@}", "[1][0][1]").gives("x$@y", "[xy]").gives("x\"$@\"y", "[xy]");
        b.gives("${@-w} ${1-w} ${*-w}", "").gives("${@:-w} ${1:-w} ${*:-w}", "[w][w][w]").gives("${@+w} ${1+w}", "[w][w]").gives("${@:+w} ${1:+w} ${*:+w}", "");
        b.errs("${@:?m}", 2).errs("${1:=w}", 3).errs("${@:=w}", 3).gives("${@=w} ${@?m} ${1=w}", "");
        b.x.strict(true);
        b.gives("$1 ${1} ${#1} ${1%x}", "[0]");
        b.parameters("", "").gives("$@ $*", "").gives("\"$@\"", "[][]").gives("\"$*\"", "[ ]").gives("x$@y", "[x][y]").gives("${@:-w} ${*:-w}", "").gives("${@:+w} ${*:+w}", "[w][w]");
        b.gives("IFS=", "").gives("\"$*\"", "[]").gives("${*:-w} ${*:+w}", "[w]").gives("${@:+w} ${@:-w}", "[w]").gives("s=$* t=$@", "").has("s", "").has("t", " ");
        b.gives("IFS=-", "").gives("\"$*\" ${*:+w}", "[-][w]");
    }

    private static void emptyValue() {
        Bench b = new Bench().gives("e=", "");
        b.has("e", "").gives("$e ${e}", "").gives("\"$e\"", "[]").gives("x${e}y", "[xy]").gives("${#e} ${#n}", "[0][0]").gives("$(($e)) $((e)) $((e+=2)) $e", "[0][0][2][2]").gives("e=", "");
        b.gives("${e-w}. ${e:-w} ${e+w} ${e:+w}. ${e=w}. ${e?w}.", "[.][w][w][.][.][.]").gives("${n-w} ${n:-w} ${n+w}. ${n:+w}.", "[w][w][.][.]");
        b.errs("${e:?w}", 2).gives("${e#*} ${e%%*} ${e#} ${e#?}", "").gives("\"${e#*}\" \"${n%x}\"", "[][]").gives("${e:=w} $e", "[w][w]");
        b.gives("e=", "").x.strict(true);
        b.gives("$e ${e} ${#e} ${e#x} ${e##*}", "[0]").errs("$n", 1).errs("${n}", 1).errs("${#n}", 1).errs("${n#x}", 1);
        Bench.same("variables", b.x.count(1), 1);
        Bench.same("no more set", b.type("e").x.mark(0), 1);
        b.errs("$e", 1);
    }

    private static void emptyW() {
        Bench b = new Bench().gives("v=ab e=", "");
        b.gives("${n-} ${n:-} ${v+} ${v:+}", "").gives("\"${n-}\" \"${v+}\"", "[][]").gives("x${n-}y", "[xy]").gives("${v#}${v##}${v%}${v%%}", "[abababab]");
        b.gives("${a=} ${b:=}", "").has("a", "").has("b", "").errs("${n?}", 2);
        Bench.same("message", b.x.message(-1), 0);
        b.errs("${n?x}", 2);
        Bench.same("message", b.x.message(-1), 1);
        b.errs("${e:?}", 2);
        Bench.same("message", b.x.message(-1), 0);
        b.gives("${e#}${e%}", "").gives("${n-$n$e}", "").gives("${n-${n-${n-}}}", "");
    }

    /** "Nothing but BLANKS is 0." */
    private static void blankReaches() {
        Bench b = new Bench().gives("e= w='  '", "");
        for (String text : new String[] {"", " ", "\t", "\n", " \t\n", "$n", "$e", "$w", " $w$n ", "${n-}", "\\\n", "$@"}) {
            b.gives("$((" + text + "))", "[0]").gives("\"$((" + text + "))\"", "[0]").gives("a=$((" + text + "))", "").has("a", "0");
        }
        for (String text : new String[] {"()", "( )", "-", "+", "!", "1+", "(1)()", "''", "0:", "?"}) {
            b.errs("$((" + text + "))", 4);
        }
        b.gives("$((0)) $((e)) $((n)) $((-e))", "[0][0][0][0]").faults("$(()", 3, 4).faults("$((", 3, 3);
    }

    /** "empty parts stay where one is, an empty one at the end must stand behind a directory". */
    private static void emptyParts() {
        Bench b = new Bench().tree("/d/", "/d/a", "/d/e/", "/d/e/a", "/f");
        b.gives("/*", "[/d][/f]").gives("//*", "[//d][//f]").gives("///*//", "[///d//]").gives("*/", "[d/]").gives("*//", "[d//]").gives("f*/", "[f*/]").gives("d*//a d//*", "[d//a][d//a][d//e]");
        b.gives("*/*/", "[d/e/]").gives("*//*//*", "[d//e//a]").gives("d/a*/ d/a*//", "[d/a*/][d/a*//]").gives("'/'*'/'", "[/d/]").gives("*//..//f", "[d//..//f]");
        String slashes = Bench.times("/", 300);
        b.set("s", slashes).gives("$s${s%/}*", "[" + slashes + slashes.substring(1) + "d][" + slashes + slashes.substring(1) + "f]");
        b.type("/d").x.go();
        b.gives("* */ ./*/ //*/", "[a][e][e/][./e/][//d/]");
        b.type("/d/e/a").x.drop();
        b.gives("e/* */ e*/", "[e/*][e/][e/]");
    }

    /** "a ] right behind [ or [! is such a byte". */
    private static void emptySets() {
        Bench b = new Bench().gives("a='[]' b='[!]' c=] d=x", "");
        b.gives("${a#[]}. ${b#[!]}. ${c#[]} ${d#[]} ${d#[!]}", "[.][.][]][x][x]").gives("${c#[]]}. ${d#[!]]}. ${c#[!]]} ${d#[]]}", "[.][.][]][x]");
        b.gives("[] [!] []] [!]]", "[[]][[!]][[]]][[!]]]");
    }
}
