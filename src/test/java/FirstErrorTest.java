/** The ERRORs 1 to 6: when each comes and when it does not, and which comes first. */
public final class FirstErrorTest {
    /** What ends by the ERROR of its number, once the object is as made() makes it. */
    private static final String[] ENDS = {"", "$n", "${m?mess}", "${9=x}", "$((1/0))", "$s$s.", "${l=x}"};

    public static void main(String[] args) {
        alone();
        firstOfTwoWords();
        firstInAWord();
        firstInAW();
        settingsBeforeWords();
        stepsOfAWord();
        atOnceWhenSoLong();
        gettingAValue();
        strictOnes();
        givingWhatIsNoName();
        messagesWhenNeeded();
        reckonedAsAWholeFirst();
        lockedOnes();
        leavesNothing();
        Bench.close();
    }

    private static Bench made() {
        Bench b = new Bench().set("s", Bench.times("x", 300)).set("v", "ab").set("e", "").parameters("p", "");
        b.type("l").x.mark(1);
        b.x.strict(true);
        return b;
    }

    private static void alone() {
        for (int error = 1; error <= 6; error++) {
            String end = ENDS[error];
            made().errs(end, error).errs("x " + end, error).errs(end + " x", error).errs("a=" + end, error).errs("x" + end, error).errs("\"" + end + "\"", error);
            made().errs("${e-}${m-" + end + "}", error).errs("$((" + end + "))", error).errs("${v#" + end + "}", error).errs("${m=" + end + "}", error);
            made().gives("${v-" + end + "} ${m+" + end + "} ${v=" + end + "} ${v?" + end + "}", "[ab][ab][ab]");
            Bench b = made().errs(end, error);
            Bench.same("variables", b.x.count(1), 3);
            Bench.same("field(0)", b.x.field(0), LineExpander.BAD);
            Bench.same("a message", b.message(), error == 2 ? "mess" : "");
        }
    }

    /** "The first ERROR that comes ends the line". */
    private static void firstOfTwoWords() {
        for (int first = 1; first <= 6; first++) {
            for (int second = 1; second <= 6; second++) {
                made().errs(ENDS[first] + " " + ENDS[second], first).errs("x " + ENDS[first] + " y " + ENDS[second] + " z", first);
                made().errs("a=" + ENDS[first] + " b=" + ENDS[second], first);
            }
        }
    }

    /** VALUES come "from the left". */
    private static void firstInAWord() {
        for (int first = 1; first <= 6; first++) {
            for (int second = 1; second <= 6; second++) {
                made().errs(ENDS[first] + ENDS[second], first).errs("\"" + ENDS[first] + "-" + ENDS[second] + "\"", first).errs("a=" + ENDS[first] + ENDS[second], first);
                made().errs("$((" + ENDS[first] + ENDS[second] + "))", first).errs("${m?" + ENDS[first] + ENDS[second] + "}", first).errs("${v%" + ENDS[first] + ENDS[second] + "}", first);
            }
        }
    }

    private static void firstInAW() {
        for (int error = 1; error <= 6; error++) {
            made().errs("${l=" + ENDS[error] + "}", error).errs("${m?" + ENDS[error] + "}", error).errs("$((1/0" + ENDS[error] + "))", error).errs("$(($((1/0))" + ENDS[error] + "))", 4);
            made().errs("${m-${m=${v#$((" + ENDS[error] + "))}}}", error).errs("${n#" + ENDS[error] + "}", 1);
            made().errs("l=" + ENDS[error], error);
        }
    }

    /** "SETTINGS come before the other words". */
    private static void settingsBeforeWords() {
        for (int error = 1; error <= 6; error++) {
            made().errs("a=1 b=" + ENDS[error] + " ${m?}", error).errs("a=1 l=x " + ENDS[error], 6).errs(ENDS[error] + " l=x", error).errs("l=x a=" + ENDS[error], 6);
        }
        made().errs("a=${m?} $n", 2).gives("x l=1", "[x][l=1]").gives("a=1 $a l=1", "[1][l=1]");
    }

    /** "in a word 1, 2, 3, 4 one behind the other". */
    private static void stepsOfAWord() {
        Bench b = new Bench().set("t", Bench.times("f ", 65)).set("w", Bench.times("f ", 64));
        b.errs("$t", 5).errs("$t${m?}", 2).errs("${m?}$t", 2).errs("$t ${m?}", 5).errs("$w ${m?}", 2).errs("$w f ${m?}", 5).errs("f $w$((1/0))", 4).errs("f $w $((1/0))", 5);
        for (int i = 0; i < 65; i++) {
            b.type("/f" + i).x.make(1);
        }
        b.errs("*", 5).errs("*${m?}", 2).errs("* ${m?}", 5).errs("${m?} *", 2).errs("x* ${m?}", 2).gives("x*", "[x*]");
        Bench c = new Bench().set("s", Bench.times("x", 300)).set("u", Bench.times("x", 201));
        c.errs("$s$s $s$s $s$s $u ${m?}", 5).errs("$s$s $s$s $s$s $u${m?}", 2).errs("$s$s $s$s $s$s ${u%x} ${m?}", 2);
        Bench d = new Bench().gives("a=${HOME=/x}:~", "").has("a", "/x:~").gives("b=$((HOME=7)):~", "").has("b", "7:/x").gives("~$((HOME=8)) ~", "[~8][8]");
    }

    /** "each at once when it comes to be so long". */
    private static void atOnceWhenSoLong() {
        for (int error = 1; error <= 6; error++) {
            if (error != 5) {
                made().errs("$s$s." + ENDS[error], 5).errs("$s${s}" + ENDS[error], error).errs("a=$s." + ENDS[error], 5).errs("a=${s}" + ENDS[error], error);
                made().errs("${m=$s." + ENDS[error] + "}", 5).errs("${m=${s}" + ENDS[error] + "}", error).errs("${m?$s." + ENDS[error] + "}", 5).errs("${m?${s}" + ENDS[error] + "}", error);
                made().errs("$(($s." + ENDS[error] + "))", 5).errs("$((${s}" + ENDS[error] + "))", error).errs("${v#$s$s." + ENDS[error] + "}", 5).errs("${v#$s${s}" + ENDS[error] + "}", error);
                made().errs("l=$s." + ENDS[error], 5).errs("${l=$s." + ENDS[error] + "}", 5);
            }
        }
        made().parameters(Bench.times("x", 150), Bench.times("x", 150)).errs("\"$*${m?}\"", 5).errs("a=$@${m?}", 5).errs("a=${m?}$@", 2).errs("$@${m?}", 2);
    }

    /** "a variable that gets a value: first that, then ERROR 6, then the 31st". */
    private static void gettingAValue() {
        Bench b = made();
        for (String name : Bench.names("v", 27)) {
            b.set(name, "1");
        }
        Bench.same("variables", b.x.count(1), 30);
        b.errs("l=$s.", 5).errs("l=$s", 6).errs("l=1", 6).errs("w=$s.", 5).errs("w=1", 5).errs("w=1 l=1", 5).errs("l=1 w=1", 6);
        b.errs("${l=$s.}", 5).errs("${l=$s}", 6).errs("${w=$s.}", 5).errs("${w=1}", 5).errs("${w=1}${l=1}", 5).errs("${l=1}${w=1}", 6);
        b.errs("$((l=1))", 6).errs("$((w=1))", 5).errs("$((l=w=1))", 5).errs("$((w=l=1))", 6).errs("$(((w=1)+(l=1)))", 5).errs("$(((l=1)+(w=1)))", 6);
        b.has("w", null).has("l", null).gives("v1=2 ${v2:=x} $((v3=4))", "[1][4]").has("v1", "2");
    }

    /** "if STRICT is told, a KEY that is not set is ERROR 1 in {KEY}, {#KEY}, LESS, and without { } (never @ * #)". */
    private static void strictOnes() {
        String[] asks = {"$n", "${n}", "${#n}", "${n#x}", "${n##x}", "${n%x}", "${n%%x}", "$3", "${3}", "${20}", "${#3}", "${3%x}"};
        for (String ask : asks) {
            made().errs(ask, 1).errs("\"" + ask + "\"", 1).errs("a=" + ask, 1).errs("${m-" + ask + "}", 1).errs("$((" + ask + "))", 1);
            Bench loose = made();
            loose.x.strict(false);
            loose.gives("." + ask, ask.startsWith("${#") ? "[.0]" : "[.]");
            String set = ask.replace('n', 'v').replace("20", "2").replace('3', '2');
            Bench.same(set, made().line(set) >= 0, true);
        }
        Bench b = made().gives("$e ${e} ${#e} $2 ${2#x} $# ${#} ${#@} ${#*}", "[0][2][2][2][2]").gives("${n-x} ${n+x} ${n:-x} ${3-x} ${n=x} $n", "[x][x][x][x][x]");
        b.errs("${m?y}", 2).errs("${4=x}", 3).gives("$((k)) ~ '$k' \\$k", "[0][~][$k][$k]").parameters().gives("$@ $* \"$@\" ${@} $#", "[0]").errs("$1", 1);
    }

    /** "= with a KEY that is no NAME, when it would give it a value: ERROR 3." */
    private static void givingWhatIsNoName() {
        Bench b = made();
        b.errs("${3=x}", 3).errs("${3:=x}", 3).errs("${20=x}", 3).errs("${2:=x}", 3).errs("\"${3=x}\"", 3).errs("a=${3=x}", 3).errs("${3=}", 3);
        b.gives("${1=x} ${1:=x} ${2=x}. ${#=x} ${#:=x} ${@=x} ${*:=x}", "[p][p][.][2][2][p][p]").gives("${3-x} ${3+x} ${2:-x}", "[x][x]").parameters();
        b.errs("${@=x}", 3).errs("${*=x}", 3).errs("${@:=x}", 3).errs("${1=x}", 3).gives("${#=x} ${#:=x}", "[0][0]").gives("${m=x}${m:=y}", "[xx]");
        b.parameters("").errs("${@:=x}", 3).errs("${*:=x}", 3).gives("${@=x} ${*=x}", "");
    }

    /** "? : likewise, but then it is ERROR 2, and w the MESSAGE." */
    private static void messagesWhenNeeded() {
        Bench b = made().gives("${v?a} ${e?b}. ${v:?c} ${#?d} ${@?e} ${1?f}", "[ab][.][ab][2][p][p]");
        Bench.same("none yet", b.x.message(-1), LineExpander.BAD);
        b.errs("${e:?empty}", 2);
        Bench.same("message", b.message(), "empty");
        b.errs("${m?$v  '$v'  \"$v\" *}", 2);
        Bench.same("message", b.message(), "ab  $v  ab *");
        b.errs("${3?three}${m?m}", 2);
        Bench.same("message", b.message(), "three");
        b.errs("${m?out${m?in}}", 2);
        Bench.same("message", b.message(), "in");
        b.errs("$n", 1).errs("${3=x}", 3).errs("$((1/0))", 4).errs("${m?$s.}", 5).errs("l=1", 6).faults("${m?x", 3, 5).gives("x", "[x]");
        Bench.same("the last one stays", b.message(), "in");
        b.parameters().errs("${@?@ $#}", 2);
        Bench.same("message", b.message(), "@ 0");
    }

    /** "(It is looked at as a whole for how it is written first.)" */
    private static void reckonedAsAWholeFirst() {
        Bench b = made().set("bad", "x1");
        b.errs("$((l=1))", 6).errs("$((l=1+))", 4).errs("$((l=1 1))", 4).errs("$(((l=1)+longname9))", 4).errs("$(((l=1)+1234567890123456789))", 4).errs("$(((l=1)+1/0))", 6);
        b.errs("$((1/0+(l=1)))", 4).errs("$((l=1/0))", 4).errs("$((bad+(l=1)))", 4).errs("$(((l=1)+bad))", 6).errs("$((l+=1/0))", 4).errs("$((l=bad))", 4);
        b.gives("$((0&&(l=1))) $((1||bad)) $((1?2:1/0)) $((0?bad:3)) $((0&&bad))", "[0][1][2][3][0]").errs("$((0&&))", 4).errs("$((1||1/))", 4).errs("$((1?2:longname9))", 4);
    }

    /** "ERROR 6: a variable that is LOCKED would get a value." */
    private static void lockedOnes() {
        Bench b = made();
        b.type("v").x.mark(1);
        b.type("e").x.mark(1);
        b.errs("v=1", 6).errs("v=ab", 6).errs("e=", 6).errs("l=", 6).errs("${l=1}", 6).errs("${l:=1}", 6).errs("${e:=1}", 6).errs("$((e=1))", 6).errs("$((e+=1))", 6).errs("$((l-=1))", 6);
        b.gives("$v ${v=1} ${v:=1} ${e=1}. ${l-1} ${e:-1} $((e+1)) ${#v}", "[ab][ab][ab][.][1][1][1][2]").gives("x v=1", "[x][v=1]").has("v", "ab").has("e", "").has("l", null);
    }

    /** "A line that goes wrong leaves nothing behind." */
    private static void leavesNothing() {
        for (int error = 1; error <= 6; error++) {
            Bench b = made().gives("x y", "[x][y]").errs("v=new w=1 e=2 ${k=3} $((j=4)) ${e:=5} " + ENDS[error], error);
            b.has("v", "ab").has("e", "").has("w", null).has("k", null).has("j", null).has("s", Bench.times("x", 300));
            Bench.same("variables", b.x.count(1), 3);
            b.gives("v=new w=1 ${k=3}", "[3]").has("v", "new").has("w", "1").has("k", "3");
            b.errs("IFS=, HOME=/h w=2 " + ENDS[error], error).gives("~ ${z-a,b} $w", "[~][a,b][1]");
        }
    }
}
