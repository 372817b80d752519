/** Promise 4, ERRORs 5 and 6: what is too much, what is locked, and which ERROR comes first. */
public final class LimitsTest {
    public static void main(String[] args) {
        values();
        joinedRows();
        words();
        wOfLess();
        fields();
        bytesOfFields();
        variables();
        locked();
        firstOne();
        manyBreaks();
        Bench.close();
    }

    private static String xs(int many) {
        return Bench.times("x", many);
    }

    private static void values() {
        Bench b = new Bench();
        b.gives("a=" + xs(300), "").has("a", xs(300)).errs("b=" + xs(301), 5).has("b", null);
        b.gives("c=" + xs(150), "").gives("d=$c$c", "").has("d", xs(300)).errs("e=$c${c}y", 5).errs("e=y$a", 5);
        b.gives("${f=" + xs(300) + "}", "[" + xs(300) + "]").errs("${g=" + xs(301) + "}", 5).errs("${g=y$a}", 5).has("g", null);
        b.gives("HOME=$a", "").gives("e=~", "").has("e", xs(300)).errs("e=~:", 5);
    }

    private static void joinedRows() {
        Bench b = new Bench().parameters(xs(150), xs(149));
        b.gives("\"$*\"", "[" + xs(150) + " " + xs(149) + "]").gives("a=$@", "").gives("$@", "[" + xs(150) + "][" + xs(149) + "]");
        b.parameters(xs(150), xs(150));
        b.errs("\"$*\"", 5).errs("a=$@", 5).errs("a=$*", 5).errs("${n?$@}", 5).errs("${n=$*}", 5).errs("$(($@))", 5).errs("${n#$@}", 5);
        b.gives("IFS= \"$*\"", "[" + xs(300) + "]").errs("a=$@", 5).gives("a=$*", "").has("a", xs(300));
        b.gives("\"$@\" ${#@} ${@+y} ${@-z}", "[" + xs(150) + "][" + xs(150) + "][2][y][" + xs(150) + "][" + xs(150) + "]");
    }

    private static void words() {
        Bench b = new Bench().gives("a=" + xs(300), "").gives("$a$a", "[" + xs(600) + "]").gives("\"$a$a\"''", "[" + xs(600) + "]");
        b.errs("$a${a}y", 5).errs("\"y$a$a\"", 5).errs("$a$a$((1))", 5).errs("$a$a${#a}", 5).gives("$a$a $a$a$none", "[" + xs(600) + "][" + xs(600) + "]");
        b.gives("s=' '", "").gives("$a${s}" + xs(299), "[" + xs(300) + "][" + xs(299) + "]").errs("$a${s}" + xs(300), 5);
        b.parameters(xs(300), xs(300)).gives("$@", "[" + xs(300) + "][" + xs(300) + "]").errs("$@y", 5);
        b.gives("HOME=$a", "").gives("~/" + xs(299), "[" + xs(300) + "/" + xs(299) + "]").errs("~/" + xs(300), 5);
    }

    private static void wOfLess() {
        Bench b = new Bench().gives("a=" + xs(300) + " c=y", "");
        b.gives("${c#$a$a} ${c%$a$a''}", "[y][y]").errs("${c#$a${a}y}", 5).errs("\"${c%%$a$a$c}\"", 5);
    }

    private static void fields() {
        Bench b = new Bench();
        b.gives(Bench.times("a ", 64), Bench.times("[a]", 64)).errs(Bench.times("a ", 65), 5);
        b.gives("a='" + Bench.times("b ", 64) + "' $a", Bench.times("[b]", 64)).errs("$a c", 5).errs("c $a", 5).gives("$a $n ${n+x} $@", Bench.times("[b]", 64));
        for (int i = 0; i < 65; i++) {
            b.type("/f" + i).x.make(1);
        }
        b.errs("*", 5).type("/f64").x.drop();
        Bench.same("64 paths", b.line("*"), 64);
        b.errs("* x", 5).errs("x *", 5).errs("f? f?? x", 5);
    }

    private static void bytesOfFields() {
        Bench b = new Bench().gives("a=" + xs(300) + " b=" + xs(100), "");
        String most = "$a$a $a$a $a$a $b$b";
        Bench.same("2000 bytes", b.line(most), 4);
        b.errs(most + " y", 5).gives(most.replace(" ", " $n "), "[" + xs(600) + "][" + xs(600) + "][" + xs(600) + "][" + xs(200) + "]");
        Bench.same("with an empty one", b.line(most + " ''"), 5);
        b.type("/p").x.make(1);
        Bench.same("a pattern counts as its path", b.line("$a$a $a$a $a$a ${b}" + xs(99) + " [" + xs(90) + "p]"), 5);
        b.errs("$a$a $a$a $a$a ${b}" + xs(99) + " [" + xs(90) + "q]", 5);
    }

    private static void variables() {
        Bench b = new Bench();
        for (String name : Bench.names("v", 30)) {
            b.gives(name + "=1", "");
        }
        Bench.same("variables", b.x.count(1), 30);
        b.errs("w=1", 5).errs("${w=1}", 5).errs("$((w=1))", 5).errs("v0=2 w=1", 5).has("v0", "1").gives("v0=2 $((v1=3)) ${v2:=4}", "[3][1]");
        Bench.same("variables", b.x.count(1), 30);
        b.type("v5").x.mark(0);
        b.gives("w=1", "").errs("v5=1", 5);
    }

    private static void locked() {
        Bench b = new Bench().gives("a=1 e=", "");
        for (String name : new String[] {"a", "e", "n"}) {
            Bench.same("mark", b.type(name).x.mark(1), 1);
        }
        b.errs("a=2", 6).errs("n=2", 6).errs("${n=2}", 6).errs("${e:=2}", 6).errs("$((a=2))", 6).errs("$((a+=0))", 6).errs("b=3 a=2", 6);
        b.gives("$a ${a=2} ${a:=2} ${e=2} ${n-2} $((a+1))", "[1][1][1][2][2]").has("a", "1").has("b", null);
    }

    private static void firstOne() {
        Bench b = new Bench().gives("a=" + xs(300), "");
        b.type("l").x.mark(1);
        b.errs("l=${n?}", 2).errs("l=x$a", 5).errs("${l=x$a}", 5).errs("${l=$((1/0))}", 4).errs("l=$a ${n?}", 6).errs("${n?} l=1", 2);
        b.errs("x$a$a${n?}", 5).errs("${n?}x$a$a", 2).errs("v=x$a${n?}", 5).errs("v=${n?}x$a", 2).errs("$((x$a${n?}))", 5).errs("${m?x$a${n?}}", 5);
        b.errs("${a#x$a$a${n?}}", 5).errs("${n?} $((1/0))", 2).errs("$((1/0)) ${n?}", 4).errs(Bench.times("a ", 65) + "${n?}", 5);
        for (int i = 0; i < 29; i++) {
            b.gives("v" + i + "=1", "");
        }
        b.errs("l=1", 6).errs("w=x$a", 5).errs("w=1 l=1", 5).errs("l=1 w=1", 6);
    }

    /** The most that a word can have beside bytes. */
    private static void manyBreaks() {
        Bench b = new Bench();
        for (int i = 0; i < 20; i++) {
            b.x.parameter();
        }
        b.gives(Bench.times("$@", 250), "").gives("x" + Bench.times("$@", 249), "[x]");
        b.errs("\"" + Bench.times("$@", 249) + "\"", 5).errs(Bench.times("\"$@\"", 125), 5).errs("\"" + Bench.times("$@", 246) + "${n?}\"", 2);
        b.gives("\"$@$@$@\"", Bench.times("[]", 58));
    }
}
