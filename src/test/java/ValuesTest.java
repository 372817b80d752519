/** Promise 4, expanding: settings, tildes, values, IN ITS PLACE, LESS, and ERRORs 1 to 3. */
public final class ValuesTest {
    public static void main(String[] args) {
        settings();
        tildes();
        tildesBeforeValues();
        parametersByAt();
        parametersByStar();
        noBreaks();
        inItsPlace();
        giving();
        messages();
        strictness();
        less();
        patterns();
        nothingLeftBehind();
        Bench.close();
    }

    private static void settings() {
        Bench b = new Bench();
        b.gives("a=1 b=$a$a c= d='x  y' e=p=q a=$b", "").has("a", "11").has("b", "11").has("c", "").has("d", "x  y").has("e", "p=q");
        b.gives("x a=2", "[x][a=2]").has("a", "11").gives("\"a\"=3 'b'=4", "[a=3][b=4]").gives("a\\=3", "[a=3]");
        b.gives("1a=3 =3 $a=3", "[1a=3][=3][11=3]").has("a", "11");
        b.gives("longname=1 longnam9=2 longname9=3", "[longname9=3]").has("longname", "1").has("longnam9", "2");
        b.gives("_=5 _1=6", "").has("_", "5").has("_1", "6").gives("f\\\n=7 \\\n g=8", "").has("f", "7").has("g", "8");
        b.gives("h=*  i=$d j=\"$d\" k=${none-a  b}", "").has("h", "*").has("i", "x  y").has("j", "x  y").has("k", "a  b");
        b.gives("$h b=9", "[*][b=9]").has("b", "11");
    }

    private static void tildes() {
        Bench b = new Bench();
        b.gives("~ ~/x", "[~][~/x]");
        b.type("u=/us er").x.user();
        b.type("v=").x.user();
        b.gives("HOME='/h *'", "");
        b.gives("~ ~/x ~u ~u/y ~v ~v/z ~w ~uu ~u: a~ x/~", "[/h *][/h */x][/us er][/us er/y][/z][~w][~uu][~u:][a~][x/~]");
        b.gives("\"~\" \\~ '~'u ~\"u\" ~\\u ~$none ~${none} ~u$none ~longname9", "[~][~][~u][~u][~u][~][~][~u][~longname9]");
        b.gives("a=~ b=~u:~:x:~/y:~w:~v:~u c=:~ d=x~ e=\\:~:\"~\":'~'u f='':~ g=$none~ h=~$none", "");
        b.has("a", "/h *").has("b", "/us er:/h *:x:/h */y:~w::/us er").has("c", ":/h *").has("d", "x~").has("e", ":~:~:~u");
        b.has("f", ":/h *").has("g", "~").has("h", "~");
        b.gives("x a=~ b:~ ${none-~} ${none-:~}", "[x][a=~][b:~][~][:~]").gives("i=${none-~} j=${none-a:~}:~", "").has("i", "~").has("j", "a:~:/h *");
        b.gives("HOME=", "").gives("~ ~/a", "[/a]").gives("k=~:~", "").has("k", ":");
    }

    private static void tildesBeforeValues() {
        Bench b = new Bench();
        b.gives("a=${HOME=/x}:~ b=~", "").has("a", "/x:~").has("b", "/x");
        b.gives("a=$((HOME=5)):~ b=~:$HOME", "").has("a", "5:/x").has("b", "5:5");
    }

    private static void parametersByAt() {
        Bench b = new Bench();
        b.gives("$@ ${@} $* \"$@\" \"${@}\" \"$@$@\" \"$@\\\n\" x\"$@\"", "[x]");
        b.gives("\"$@\"\"\" ''\"$@\" \" $@\" \"$*\"", "[][][ ][]");
        b.parameters("one", "two words", "", " lead", "");
        b.gives("$@", "[one][two][words][lead]").gives("\"$@\"", "[one][two words][][ lead][]");
        b.gives("x\"$@\"y", "[xone][two words][][ lead][y]").gives("x$@y", "[xone][two][words][lead][y]");
        b.gives("\"$@$@\"", "[one][two words][][ lead][one][two words][][ lead][]").gives("\"a $@ b\"", "[a one][two words][][ lead][ b]");
        b.gives("${none-\"$@\"} \"${none-$@}\"", "[one][two words][][ lead][][one][two words][][ lead][]");
        b.gives("$# ${#@} \"${#*}\" $5. ${6-no}", "[5][5][5][.][no]");
        b.parameters("").gives("$@ $*", "").gives("\"$@\"", "[]").gives("x$@", "[x]");
    }

    private static void parametersByStar() {
        Bench b = new Bench().parameters("a b", "", "c");
        b.gives("$*", "[a][b][c]").gives("\"$*\" \"${*}\"", "[a b  c][a b  c]").gives("IFS=,: \"$*\" $*", "[a b,,c][a b][c]");
        b.gives("IFS= \"$*\" $*", "[a bc][a b][c]").gives("${none-\"$*\"} \"${none-$*}\"", "[a bc][a bc]");
        b.type("IFS").x.mark(0);
        b.gives("IFS='x ' y=$* z=\"$*\" w=$@ v=\"$@\"", "").has("y", "a bxxc").has("z", "a bxxc").has("w", "a b  c").has("v", "a b  c");
    }

    private static void noBreaks() {
        Bench b = new Bench().parameters("1", "2");
        b.gives("IFS=+ $(($*)) \"$(($*))\"", "[3][3]").errs("$(($@))", 4);
        b.gives("a=${none-$@} b=${none-$*} c=${d=$@} e=${f:=\"$*\"}", "").has("a", "1 2").has("b", "1+2").has("d", "1 2").has("f", "1+2");
        b.errs("${none?$@ $*}", 2);
        Bench.same("message", b.message(), "1 2 1+2");
        b.gives("x='1 2 3' ${x#$@} ${x%\"$@\"}.", "[ 3][1 2 3.]");
        b.gives("${g=\"$@\"}", "[1 2]").has("g", "1 2");
        b.gives("${h=$@}", "[1 2]").has("h", "1 2");
        b.parameters().gives("${i=\"$@\"} ${j=\"\"} ${k=\"$*\"}", "[][]");
    }

    private static void inItsPlace() {
        Bench b = new Bench().parameters("p", "").gives("s=set e=", "");
        b.gives("${s-w} ${e-w}. ${n-w} ${s:-w} ${e:-w} ${n:-w}", "[set][.][w][set][w][w]");
        b.gives("${s+w} ${e+w} ${n+w}. ${s:+w} ${e:+w}. ${n:+w}.", "[w][w][.][w][.][.]");
        b.gives("${1-w} ${2-w}. ${2:-w} ${3-w} ${3:+w}. ${1:+w}", "[p][.][w][w][.][w]");
        b.gives("${@+w} ${*:+w} ${#+w} ${#:+w} ${#-w}", "[w][w][w][w][2]");
        b.parameters().gives("${@+w}. ${*-w} ${@:-w} ${#:-w}", "[.][w][w][0]");
        b.parameters("").gives("${@-w}. ${@:-w} ${*:-w} ${@:+w}.", "[.][w][w][.]");
        b.parameters("", "").gives("\"${@:-w}\" \"${*:-w}\"", "[][][ ]").gives("IFS= \"${*:-w}\" ${@:+w}", "[w][w]");
        b.type("IFS").x.mark(0);
        b.gives("${n-a b 'c d' $s\"$s $s\"}", "[a][b][c d][setset set]").gives("\"${n-a b  $s}\"", "[a b  set]");
        b.gives("${n-''} ${n-\"\"} ${n-} \"${n-}\"", "[][][]").gives("${s-$((1/0))} ${n+$((1/0))} ${s?$((1/0))} ${s=$((1/0))}", "[set][set][set]");
        b.gives("x${n- }y x${n- a }y", "[x][y][x][a][y]");
    }

    private static void giving() {
        Bench b = new Bench().parameters("p");
        b.gives("${a=x} $a ${a=y} ${a:=z}", "[x][x][x][x]").gives("b= ${b=x}. ${b:=y} $b", "[.][y][y]").has("b", "y");
        b.gives("${c='a b' c} $c \"${d=a  b}\" $d", "[a b][c][a][b][c][a  b][a][b]").has("c", "a b c").has("d", "a  b");
        b.gives("${e='*'}${f=\"\"}", "[*]").has("e", "*").has("f", "").gives("${g=${h=1}2}$h", "[121]").has("g", "12");
        b.gives("${1=x} ${1:=x}", "[p][p]").errs("${2=x}", 3).errs("${2:=x}", 3).gives("${#=x} ${#:=x} ${@=x} ${*:=x}", "[1][1][p][p]");
        b.parameters("").errs("${1:=x}", 3).errs("${@:=x}", 3).gives("${@=x} ${1=x}", "");
        b.parameters().errs("${@=x}", 3).errs("${*=x}", 3).errs("${1=x}", 3);
    }

    private static void messages() {
        Bench b = new Bench().gives("a=1 e=", "");
        Bench.same("no message", b.x.message(-1), -1);
        b.gives("${a?no} ${e?no}. ${a:?no}", "[1][.][1]").errs("x ${n?why  not \"$a\" '*'}", 2);
        Bench.same("message", b.message(), "why  not 1 *");
        Bench.same("message(12)", b.x.message(12), -1);
        Bench.same("message(-2)", b.x.message(-2), -1);
        b.gives("a", "[a]").faults("$((", 3, 3).faults("'", 1, 0).errs("$((1/0))", 4);
        Bench.same("a line that is none", b.line("\1"), -1);
        Bench.same("it stays", b.message(), "why  not 1 *");
        b.errs("${e:?}", 2);
        Bench.same("an empty one", b.x.message(-1), 0);
        Bench.same("without bytes", b.x.message(0), -1);
        b.errs("${5?${n?in}}", 2);
        Bench.same("the inner one", b.message(), "in");
        b.errs("${n?" + Bench.times("x", 300) + "}", 2);
        Bench.same("a long one", b.x.message(-1), 300);
        b.errs("${n?" + Bench.times("y", 301) + "}", 5);
        Bench.same("too long a one", b.x.message(0), (int) 'x');
    }

    private static void strictness() {
        Bench b = new Bench().parameters("p").gives("a=1 e=", "");
        b.x.strict(true);
        b.gives("$a $e $1 $@ $# ${#e} ${e#x} ${n-1}${n+2}${n=3} $n", "[1][p][p][1][0][13][3]");
        b.errs("$m", 1).errs("${m}", 1).errs("${#m}", 1).errs("${m#x}", 1).errs("${m%%x}", 1).errs("\"$2\"", 1).errs("${#2}", 1).errs("${2%x}", 1);
        b.errs("x=$m", 1).errs("${m#${l?}}", 1).gives("$((m)) ~", "[0][~]").errs("$(($m))", 1).gives("${m+$l} ${a-$l}", "[1]");
        b.parameters().gives("$@ $* ${@} ${#@} ${#*} $# ${##} ${#%0}.", "[0][0][0][1][.]");
        Bench.same("strict(false)", b.x.strict(false), 1);
        Bench.same("strict(true)", b.x.strict(true), 0);
        b.x.strict(false);
        b.gives("$m. ${#m} ${m#x}.", "[.][0][.]");
    }

    private static void less() {
        Bench b = new Bench().parameters("xyx").gives("w=abcabc p='*' q=a/b/c d=0123", "");
        b.gives("${w#*b} ${w##*b} ${w%b*} ${w%%b*}", "[cabc][c][abca][a]").gives("${w#} ${w%} ${w##*}. ${w%%*}. ${w#*} ${w%*}", "[abcabc][abcabc][.][.][abcabc][abcabc]");
        b.gives("${w#b} ${w%b} ${w#abcabcd} ${w#abcabc}.", "[abcabc][abcabc][abcabc][.]");
        b.gives("${q##*/} ${q%/*} ${q%%/*} ${q#*/}", "[c][a/b][a][b/c]").gives("${1#x} ${1%x} ${#%0}", "[yx][xy][1]");
        b.gives("${w#$p} ${w##$p}. ${w##\"$p\"} ${w##'*'} ${w##\\*}", "[abcabc][.][abcabc][abcabc][abcabc]");
        b.gives("\"${w##$p}\" \"${w##\"$p\"}\" \"${w#'a'}\"", "[][abcabc][bcabc]");
        b.gives("${w#${w=x}}. ${w#${v=a}} $v", "[.][bcabc][a]").gives("${u#${u=a}}. $u", "[.][a]");
        b.gives("x=1 ${x#$((x=2))} $x", "[1][2]");
        b.gives("v='a  b' ${v#a} \"${v#a}\"", "[b][  b]").errs("${n#${m?x}}", 2);
        b.gives("\"${d#[0-1]}${d##[0-1]*}${d%[!0-2]}\"", "[123012]");
    }

    private static void patterns() {
        Bench b = new Bench().gives("a=a m=- e=] x='!' h='[' s='[ab' c='a]'", "");
        b.gives("${a#[abc]}. ${a#[!abc]} ${a#[b-z]} ${a#[!b-z]}. ${a#[a-a]}. ${a#?}.", "[.][a][a][.][.][.]");
        b.gives("${m#[a-]}. ${m#[-a]}. ${m#[!a-]} ${m#[+--]}. ${m#[a\\-z]}. ${a#[!-z]}. ${m#[+'-'z]}.", "[.][.][-][.][.][.][.]");
        b.gives("${e#[]]}. ${e#[]a]}. ${e#[!]]} ${a#[!]]}. ${e#[a\\]]}. ${e#[Z-^]}. ${a#[]-b]}.", "[.][.][]][.][.][.][.]");
        b.gives("${x#[!]} ${x#[\\!]}. ${x#['!'a]}. ${x#[a!]}. ${a#[\"!\"a]}. ${x#[!!]}", "[!][.][.][.][.][!]");
        b.gives("${h#[}. ${h#[[]}. ${s#[a}  ${s#[*}. ${s##[*}. ${c#[a]}] ${c#[a]]}. ${c#a]}.", "[.][.][b][ab.][.][]]][.][.]");
        b.gives("p=@ q=? ${p#[a-z]} ${p#[@]}. ${p#[?-A]}. ${q#[?-A]}. ${q#[@-z]}x ${p#[!?]}. ${q#[!?]}x", "[@][.][.][.][?x][.][?x]");
        b.gives("y='a*b' ${y#a[*]} ${y#a\\*} ${y#*\\*}  ${y#\"a*\"} ${y%%'*'*}", "[b][b][b][b][a]");
        b.gives("z='a\\b' t='\\*' ${z#a\\\\} ${z#$t} ${z#?$t}. ${t#$t}.", "[b][a\\b][b.][*.]");
    }

    private static void nothingLeftBehind() {
        Bench b = new Bench().gives("a=1 b=2", "");
        b.errs("a=3 c=4 ${d=5} $((b=6)) ${n?m}", 2).has("a", "1").has("b", "2").has("c", null).has("d", null);
        Bench.same("variables", b.x.count(1), 2);
        b.errs("a=$((a+1)) $((1/0))", 4).has("a", "1").gives("a=$((a+1)) $a", "[2]").has("a", "2");
        b.faults("a=9 '", 1, 4).has("a", "2");
        b.errs("x ${n?m}", 2);
        Bench.same("no fields", b.x.field(0), -1);
    }
}
