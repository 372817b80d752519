/** Promises 4 (line, as far as it is read) and 5 (place): words, quotes, FORMS, and the faults with their places. */
public final class ReadingTest {
    public static void main(String[] args) {
        words();
        quotes();
        dollars();
        formsThatAreFine();
        openEnds();
        forbidden();
        wrongForms();
        wrongReaches();
        depth();
        placeStays();
        badLines();
        Bench.close();
    }

    private static void words() {
        new Bench().gives("", "").gives(" \t\n ", "").gives("a", "[a]").gives(" a\tb\nc  d ", "[a][b][c][d]")
            .gives("a\\ b c\\\td", "[a b][c\td]").gives("'a b'c \"d e\"f", "[a bc][d ef]")
            .gives("${x-a b}c", "[a][bc]").gives("$(( 1 + 2 ))", "[3]").gives("a}b {c}", "[a}b][{c}]")
            .gives("a(b)c", "[a(b)c]");
    }

    private static void quotes() {
        Bench b = new Bench().parameters("p");
        b.gives("\\a\\\\\\'\\\"\\$\\`", "[a\\'\"$`]");
        b.gives("a\\\nb \\\n \\\n\\\n", "[ab]");
        b.gives("'a\\b$x`\"\n'", "[a\\b$x`\"\n]");
        b.gives("\"a\\b\\$x\\`\\\"\\\\'\\'\"", "[a\\b$x`\"\\'\\']");
        b.gives("\"a\\\nb\"", "[ab]");
        b.gives("'' \"\" a''b \"\"''", "[][][ab][]");
        b.gives("\"\\\n\"", "[]");
        b.gives("\"$none\" '$1' \"$1\"", "[][$1][p]");
    }

    private static void dollars() {
        Bench b = new Bench().parameters("one", "two").gives("ab=v a=w", "");
        b.gives("$ab$a.$a-b $abc", "[vw.w-b]").gives("$ab_ $a$", "[w$]");
        b.gives("$ $$ $0 $- $? $! $% $' ' \"$\" $\"a\"", "[$][$$][$0][$-][$?][$!][$%][$ ][$][$a]");
        b.gives("$1$2 $10 $3x $## $#x", "[onetwo][one0][x][2#][2x]");
        b.gives("x$) $]", "[x$)][$]]");
    }

    private static void formsThatAreFine() {
        Bench b = new Bench().parameters("one", "two", "3", "4", "5", "6", "7", "8", "9", "ten").gives("a=abc", "");
        b.gives("${a} ${1} ${10} ${01} ${20-x} ${@:+y} ${*+z} ${#}", "[abc][one][ten][one][x][y][z][10]");
        b.gives("${#a} ${#1} ${#10} ${#@} ${#*} ${##} ${#none}", "[3][3][3][10][10][2][0]");
        b.gives("${#-x} ${#:-x} ${#+x} ${#?x} ${#=x} ${#%0} ${##1} ${###1} ${#%%*}.", "[10][10][x][10][10][1][0][0][.]");
        b.gives("${none-a\"}\"b'}'c\\}d}e", "[a}b}c}de]").gives("\"${none-a'b\\}c}d\"", "[a'b\\c}d]");
        b.gives("\"${none-\\\"\\$\\\\\\`}\"", "[\"$\\`]");
        b.gives("\"${a#\"a\"}${a%'c'}${a#\\a}\"", "[bcabbc]").gives("\"${a#${none-'a'}}\"", "[bc]");
        b.gives("${none-x\\\ny}", "[xy]").gives("${none-${none-{}}}", "[{}]");
        b.gives("$(((1)+(2))) $((1))) $((${none-(}1${none-)}))", "[3][1)][1]");
    }

    private static void openEnds() {
        Bench b = new Bench();
        b.faults("'abc", 1, 0).faults("ab'c\"", 1, 2).faults("\"abc", 1, 0).faults("a \"b'c' $x", 1, 2);
        b.faults("a\\", 1, 1).faults("\\", 1, 0).faults("\"a\\", 1, 0).faults("\"a\\\"", 1, 0);
        b.faults("${a-'x", 1, 4).faults("${a-\"x", 1, 4).faults("${a-x", 3, 5).faults("\"${a-x", 3, 6);
        b.faults("\"${a#\"x", 1, 5).faults("${a-\\", 1, 4).faults("\"${a-\\", 3, 6).faults("\"${a#\\", 1, 5);
        b.faults("$((1", 3, 4).faults("$((1\\", 3, 5).faults("$((${a-1}", 3, 9).faults("\"$((1", 3, 5);
        b.faults("${", 3, 2).faults("${a", 3, 3).faults("${a:", 3, 4).faults("${#", 3, 3).faults("${1", 3, 3);
        b.faults("${@", 3, 3).faults("$((", 3, 3).faults("$((1)", 3, 5).faults("\"${a}", 1, 0);
    }

    private static void forbidden() {
        Bench b = new Bench();
        b.faults("`x`", 2, 0).faults("a\"`\"", 2, 2).faults("${a-`}", 2, 4).faults("\"${a-`}\"", 2, 5).faults("$((`))", 2, 3);
        b.faults("${a#`}", 2, 4).faults("a$(x)", 2, 1).faults("\"$(", 2, 1).faults("$( (1))", 2, 0).faults("$(($(1)))", 2, 3);
        b.faults("'`' \\` \"\\`\" '", 1, 12);
        b.faults("' `' ` \"", 2, 5);
    }

    private static void wrongForms() {
        Bench b = new Bench();
        b.faults("${}", 3, 2).faults("${-}", 3, 2).faults("${ a}", 3, 2).faults("${a }", 3, 3).faults("${a!b}", 3, 3);
        b.faults("${a:x}", 3, 4).faults("${a:}", 3, 4).faults("${a:#x}", 3, 4).faults("${a::-x}", 3, 4).faults("${a: -x}", 3, 4);
        b.faults("${@#x}", 3, 3).faults("${*%x}", 3, 3).faults("${@##x}", 3, 3).faults("${@:#x}", 3, 4).faults("${@x}", 3, 3);
        b.faults("${0}", 3, 2).faults("${00}", 3, 2).faults("${21}", 3, 2).faults("${99}", 3, 2).faults("${100}", 3, 4);
        b.faults("${1a}", 3, 3).faults("${#a-x}", 3, 3).faults("${#a", 3, 3).faults("${#0}", 3, 3).faults("${#@-x}", 3, 3);
        b.faults("${#21}", 3, 3).faults("${# }", 3, 3).faults("$longname9", 3, 9).faults("\"$longname9\"", 3, 10);
        b.faults("${longname9}", 3, 10).faults("${longname9x-y}", 3, 10).faults("${\"a\"}", 3, 2).faults("${a\"b\"}", 3, 3);
        b.faults("\"${a-\"b\"}\"", 3, 5).faults("\"${a:=b\"}\"", 3, 7).faults("$((${a-\"1\"}))", 3, 7).faults("${${a}}", 3, 2);
        b.gives("$longname ${longname} ${#longname}", "[0]");
    }

    private static void wrongReaches() {
        Bench b = new Bench();
        b.faults("$((1)x)", 3, 5).faults("$((1) )", 3, 5).faults("$(((1))", 3, 7).faults("$((\"1\"))", 3, 3);
        b.faults("\"$((\"1\"))\"", 3, 4);
    }

    private static void depth() {
        Bench b = new Bench();
        b.gives("${a-${a-${a-${a-${a-${a-x}}}}}}", "[x]");
        b.faults("${a-${a-${a-${a-${a-${a-${a}}}}}}}", 4, 24);
        b.faults("${a-${a-${a-${a-${a-${a-${", 4, 24).faults("${a-${a-${a-${a-${a-${a-$((1))}}}}}}", 4, 24);
        b.faults("${a-${a-${a-${a-${a-${a-$(1)}}}}}}", 2, 24);
        b.gives("${a-${a-${a-${a-${a-$((1))}}}}}${a-${a-2}}", "[12]");
        b.faults("$(($(($(($(($(($(($((1))))))))))))))", 4, 18);
        b.gives("\"${a#\"${a#\"${a#\"${a#\"${a#\"${a#\"x\"}\"}\"}\"}\"}\"}\"", "[]");
        b.faults("\"${a#\"${a#\"${a#\"${a#\"${a#\"${a#\"$a${a}", 4, 33);
    }

    private static void placeStays() {
        Bench b = new Bench().faults("'", 1, 0).faults("abc${", 3, 5);
        b.value("a");
        b.type("/x").x.make(0);
        Bench.same("behind other calls", b.x.place(), 5);
        Bench.same("a line that is none", b.line("a\1"), -1);
        Bench.same("behind it", b.x.place(), 5);
        b.gives("a", "[a]").faults("`", 2, 0).errs("${x?}", 2);
    }

    private static void badLines() {
        Bench b = new Bench();
        Bench.same("500 bytes", b.line(Bench.times(" ", 499) + "a"), 1);
        Bench.same("fields", b.fields(), "[a]");
        Bench.same("501 bytes", b.line(Bench.times(" ", 501)), -1);
        Bench.same("fields stay", b.fields(), "[a]");
        for (int bad : new int[] {0, 8, 11, 13, 31, 127, 128, 255}) {
            Bench.same("byte " + bad, b.line("b" + (char) bad), -1);
            Bench.same("fields stay", b.fields(), "[a]");
        }
        for (int good : new int[] {9, 10, 32, 33, 126}) {
            Bench.same("byte " + good, b.line("'" + (char) good + "'"), 1);
            Bench.same("as it is", b.fields(), "[" + (char) good + "]");
        }
    }
}
