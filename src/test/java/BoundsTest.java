/** The limits that the Terms name, each with the last input that is met and the first that is not. */
public final class BoundsTest {
    public static void main(String[] args) {
        bytesOfALine();
        blanksBetweenWords();
        ninthByteOfAName();
        whatANameHas();
        dollarItself();
        tildesOfLongNames();
        numbersOfParameters();
        thirtyVariables();
        valuesOf300();
        joinedRowsOf300();
        messagesOf300();
        textsToReckonOf300();
        wordsOf600();
        wOfLessOf600();
        fields64();
        fieldsOf2000();
        digits18();
        sixWithinEachOther();
        namesOfTheTree();
        Bench.close();
    }

    private static String xs(int many) {
        return Bench.times("x", many);
    }

    /** "A LINE has up to 500 bytes." */
    private static void bytesOfALine() {
        Bench b = new Bench();
        Bench.same("500 bytes", b.line("'" + xs(498) + "'"), 1);
        Bench.same("its field", b.x.field(0), 498);
        Bench.same("501 bytes", b.line("'" + xs(499) + "'"), LineExpander.BAD);
        Bench.same("the field stays", b.x.field(0), 498);
        b.faults(xs(499) + "'", 1, 499).faults(xs(499) + "\\", 1, 499).faults(xs(499) + "`", 2, 499).faults(xs(498) + "$(", 2, 498);
        b.faults("${a-" + xs(496), 3, 500).faults("$((" + xs(497), 3, 500).faults(xs(498) + "${", 3, 500);
        b.gives(xs(499) + "$", "[" + xs(499) + "$]").gives("  " + Bench.times("'' ", 64) + Bench.times(" ", 306), Bench.times("[]", 64));
        b.gives(Bench.times("$n", 250), "").errs(Bench.times("\"\" ", 166), 5).gives(Bench.times("\"\"", 250), "[]");
    }

    /** "BLANKS 9, 10, 32." */
    private static void blanksBetweenWords() {
        Bench b = new Bench();
        for (int blank : new int[] {9, 10, 32}) {
            b.gives("a" + (char) blank + "b", "[a][b]").gives("a\"" + (char) blank + "\"b", "[a" + (char) blank + "b]");
            b.gives("$((" + (char) blank + "))", "[0]").gives("v='a" + (char) blank + "b' $v", "[a][b]");
        }
        for (int other = 33; other < 127; other++) {
            if ("$'\"\\`*?[".indexOf(other) < 0) {
                b.gives("a" + (char) other + "b", other == '=' ? "" : "[a" + (char) other + "b]");
            }
        }
    }

    /** "at most 8 bytes"; "a ninth byte of a NAME behind $ or in a KEY". */
    private static void ninthByteOfAName() {
        Bench b = new Bench().gives("longname=v l234567_=w", "");
        b.gives("$longname ${longname} ${#longname} ${longname-x} ${longname#x} \"$longname\"", "[v][v][1][v][v][v]");
        b.faults("$longname9", 3, 9).faults("$longname9.", 3, 9).faults("${longname9}", 3, 10).faults("${longname9-x}", 3, 10);
        b.faults("\"$longnamex\"", 3, 10).faults("${n-$longname_}", 3, 13).faults("$(($longname9))", 3, 12).faults("$longname9'", 3, 9).faults("${longname9", 3, 10);
        b.gives("$longname.9 $longname-x ${longname}9 '$longname9' \\$longname9", "[v.9][v-x][v9][$longname9][$longname9]");
        b.gives("longname=1 $((longname)) $((longname=2)) $longname", "[1][2][2]").errs("$((longname9))", 4).errs("$((longname9=2))", 4).has("longname", "2");
        b.gives("longname=3", "").gives("longname9=3", "[longname9=3]").has("longname", "3");
        Bench.same("variables", b.x.count(1), 2);
    }

    /** "a letter or _, then letters, digits, _". */
    private static void whatANameHas() {
        for (int c = 33; c < 127; c++) {
            boolean letter = c >= 'a' && c <= 'z' || c >= 'A' && c <= 'Z' || c == '_';
            boolean digit = c >= '0' && c <= '9';
            Bench b = new Bench();
            if ("$'\"\\`".indexOf(c) < 0) {
                String word = (char) c + "=1";
                b.gives(word, letter ? "" : "[" + word + "]");
                Bench.same("count(1) behind " + word, b.x.count(1), letter ? 1 : 0);
                String second = "a" + (char) c + "=1";
                b.gives(second, letter || digit || c == '=' ? "" : "[" + second + "]");
            }
            Bench.same("value of " + (char) c, b.value("" + (char) c), letter ? 1 : LineExpander.BAD);
            Bench.same("mark of " + (char) c, b.type("" + (char) c).x.mark(0), letter ? 1 : LineExpander.BAD);
            Bench.same("mark of b" + (char) c, b.type("b" + (char) c).x.mark(1), letter || digit ? 1 : LineExpander.BAD);
            Bench.same("user " + (char) c, b.type((char) c + "=x").x.user() > 0, letter);
            if ("$'\"\\`".indexOf(c) < 0) {
                new Bench().set("a", "v").gives("$a" + (char) c + ".", letter || digit ? "[.]" : "[v" + (char) c + ".]");
            }
        }
    }

    /** "$ itself otherwise." */
    private static void dollarItself() {
        for (int c = 33; c < 127; c++) {
            Bench b = new Bench();
            boolean key = c >= 'a' && c <= 'z' || c >= 'A' && c <= 'Z' || c >= '1' && c <= '9' || "_@*".indexOf(c) >= 0;
            if (key) {
                b.gives("$" + (char) c + ".", "[.]").gives("\"$" + (char) c + ".\"", "[.]");
            } else if ("({'\"\\`#$".indexOf(c) < 0) {
                b.gives("$" + (char) c + ".", "[$" + (char) c + ".]").gives("\"$" + (char) c + ".\"", "[$" + (char) c + ".]");
            }
        }
        Bench b = new Bench().gives("$# \"$#\" $$# $'' $\"\" $\\x $\\\n", "[0][0][$0][$][$][$x][$]").gives("$", "[$]").gives("a$ \"$\" ${n-$} $", "[a$][$][$][$]");
        b.faults("$(", 2, 0).faults("$(.", 2, 0).faults("$((", 3, 3).faults("${", 3, 2).errs("$(($))", 4);
    }

    private static void tildesOfLongNames() {
        Bench b = new Bench();
        b.type("longname=/l").x.user();
        b.gives("~longname ~longname/x ~longnam ~longname9 ~longname9/x", "[/l][/l/x][~longnam][~longname9][~longname9/x]");
        b.gives("a=~longname:~longname9:~longname/y", "").has("a", "/l:~longname9:/l/y");
    }

    /** "a number of one or two digits (1 .. 20)"; "$ and .. a digit 1 .. 9". */
    private static void numbersOfParameters() {
        String[] twenty = Bench.names("p", 20).toArray(new String[0]);
        for (int i = 1; i <= 20; i++) {
            Bench b = new Bench().parameters(twenty);
            b.gives("${" + i + "}", "[p" + (i - 1) + "]").gives("${#" + i + "}", i <= 10 ? "[2]" : "[3]").gives("${" + i + "#p}", "[" + (i - 1) + "]");
        }
        Bench b = new Bench().parameters(twenty);
        for (int i = 1; i <= 9; i++) {
            b.gives("$" + i, "[p" + (i - 1) + "]").gives("${0" + i + "}", "[p" + (i - 1) + "]").gives("$" + i + "0", "[p" + (i - 1) + "0]");
        }
        b.gives("$0 $#", "[$0][20]");
        for (int i = 21; i <= 99; i++) {
            new Bench().faults("${" + i + "}", 3, 2);
        }
        b.faults("${0}", 3, 2).faults("${00}", 3, 2).faults("${0-x}", 3, 2).faults("${21-x}", 3, 2).faults("a${99", 3, 3);
        b.faults("${100}", 3, 4).faults("${200}", 3, 4).faults("${011}", 3, 4).faults("${210}", 3, 2).faults("${000}", 3, 2).faults("${1x}", 3, 3);
        b.x.shift(1);
        b.gives("${19} ${20-none} $#", "[p19][none][19]");
    }

    /** "VARIABLES .. at most 30". */
    private static void thirtyVariables() {
        for (String thirtieth : new String[] {"w=1", "${w=1}", "${w:=1}", "$((w=1))", "$((w+=1))", "\"${w=1}\"", "v0=2 w=1", "v0=${w=1}", "${n-${w=1}}"}) {
            Bench b = new Bench();
            for (String name : Bench.names("v", 29)) {
                b.gives(name + "=1", "");
            }
            Bench.same("the 30th by " + thirtieth, b.line(thirtieth) >= 0, true);
            Bench.same("variables", b.x.count(1), 30);
            b.has("w", "1").errs(thirtieth.replace('w', 'y'), 5).has("y", null).has("v1", "1").gives("w=3 v5=4 ${v6:=x}", "[1]").has("w", "3");
            Bench.same("variables", b.x.count(1), 30);
            Bench.same("one less", b.type("v7").x.mark(0), 1);
            Bench.same("then another", b.line(thirtieth.replace('w', 'y')) >= 0, true);
            b.has("y", "1");
        }
        Bench b = new Bench();
        StringBuilder all = new StringBuilder();
        for (String name : Bench.names("v", 30)) {
            all.append(name).append("=1 ");
        }
        b.errs(all + "w=1", 5);
        Bench.same("none of the 31", b.x.count(1), 0);
        b.gives(all.toString(), "");
        Bench.same("all of the 30", b.x.count(1), 30);
    }

    /** "a value .. of more than 300 bytes". */
    private static void valuesOf300() {
        Bench b = new Bench().set("s", xs(300)).set("t", xs(299)).set("h", xs(150));
        b.gives("a=" + xs(300), "").has("a", xs(300)).errs("a=" + xs(301), 5).has("a", xs(300));
        b.gives("a='" + xs(300) + "'", "").errs("a='" + xs(301) + "'", 5).gives("a=$s", "").errs("a=$s.", 5).errs("a=.$s", 5).gives("a=$s$n''\"\"", "");
        b.gives("a=$t$((7))", "").errs("a=$t$((17))", 5).gives("a=$t${#n}", "").errs("a=$t${#h}", 5).gives("a=$t$#", "").errs("a=${t}x$#", 5);
        b.gives("a=$h$h", "").errs("a=$h$h\\x", 5).gives("a=${n-$s}", "").errs("a=${n-$s.}", 5).gives("a=${s%x}.", "").errs("a=${s%.}.", 5);
        for (String sign : new String[] {"=", ":="}) {
            Bench c = new Bench().set("s", xs(300)).set("t", xs(299));
            c.errs("${a" + sign + "$s.}", 5).has("a", null).gives("${#a} ${a" + sign + "$s}", "[0][" + xs(300) + "]").has("a", xs(300));
            c.gives("\"${b" + sign + "$t.}\"", "[" + xs(299) + ".]").has("b", xs(299) + ".").errs("\"${c" + sign + "$t..}\"", 5).has("c", null);
        }
        Bench d = new Bench().gives("HOME=" + xs(150), "");
        d.gives("a=~~", "").has("a", "~~").gives("a=~/" + xs(149), "").errs("a=~/" + xs(150), 5).gives("a=~:" + xs(149), "").errs("a=~:~", 5).has("a", xs(150) + ":" + xs(149));
        d.type("u=" + xs(99)).x.user();
        d.gives("a=~u:~u:~u/", "").has("a", xs(99) + ":" + xs(99) + ":" + xs(99) + "/").errs("a=~u:~u:~u/.", 5).errs("a=~u:~u:~u:~", 5);
    }

    /** "a joined row of parameters .. of more than 300 bytes". */
    private static void joinedRowsOf300() {
        Bench b = new Bench().parameters(xs(100), xs(100), xs(98));
        String row = xs(100) + " " + xs(100) + " " + xs(98);
        b.gives("\"$*\"", "[" + row + "]").gives("a=$@", "").has("a", row).gives("a=$*", "").has("a", row).gives("${b=$@}", "[" + xs(100) + "][" + xs(100) + "][" + xs(98) + "]");
        b.gives("${@:+y} ${*:+y} ${b#$@}.", "[y][y][.]").errs("${n?$*}", 2).errs("$(($@))", 4);
        b.parameters(xs(100), xs(100), xs(99));
        b.errs("\"$*\"", 5).errs("a=$@", 5).errs("a=$*", 5).errs("${c=$@}", 5).errs("${c=$*}", 5).errs("${b#$@}", 5).errs("${b%\"$*\"}", 5);
        b.errs("${n?$*}", 5).errs("$(($@))", 5).errs("\"${*-y}\"", 5).errs("${@:+y}", 5).errs("${*:-y}", 5);
        b.gives("$# ${#*} ${#@} ${@+y} ${*+y}", "[3][3][3][y][y]").gives("\"$@\"", "[" + xs(100) + "][" + xs(100) + "][" + xs(99) + "]").has("a", row);
        b.gives("IFS=", "").gives("\"$*\" ${*:+y}", "[" + xs(299) + "][y]").errs("a=$@", 5).errs("${@:+y}", 5);
    }

    /** "a MESSAGE .. of more than 300 bytes". */
    private static void messagesOf300() {
        Bench b = new Bench().set("s", xs(299));
        b.errs("${n?$s.}", 2);
        Bench.same("300", b.message(), xs(299) + ".");
        b.errs("${n?$s..}", 5).errs("${n:?" + Bench.times("y", 301) + "}", 5);
        Bench.same("the one before stays", b.message(), xs(299) + ".");
        b.errs("${n:?" + Bench.times("y", 300) + "}", 2);
        Bench.same("another one", b.message(), Bench.times("y", 300));
    }

    /** "a text to be reckoned of more than 300 bytes". */
    private static void textsToReckonOf300() {
        Bench b = new Bench().set("s", Bench.times(" ", 299));
        b.gives("$((" + Bench.times(" ", 299) + "7))", "[7]").errs("$((" + Bench.times(" ", 300) + "7))", 5);
        b.gives("$((${s}7))", "[7]").errs("$((${s}17))", 5).errs("$((1$s+))", 5).errs("$((+${s}))", 4).gives("$((5$s))", "[5]").errs("$((${#s}$s))", 5);
    }

    /** "a word, before it is parted, .. of more than 600". */
    private static void wordsOf600() {
        Bench b = new Bench().set("s", xs(300)).set("t", xs(299)).set("w", Bench.times(" ", 300)).set("HOME", xs(200));
        b.gives("$s$s", "[" + xs(600) + "]").errs("$s$s.", 5).errs(".$s$s", 5).gives("$s$t.", "[" + xs(599) + ".]").gives("\"$s$s\"", "[" + xs(600) + "]").errs("\"$s$s \"", 5);
        b.gives("$w$w", "").errs("$w$w.", 5).errs("$w$w$((1))", 5).gives("$w${w}''", "[]").gives("$s$w", "[" + xs(300) + "]").errs("$s$w'.'", 5);
        b.gives("$s$t$((5))", "[" + xs(599) + "5]").errs("$s$t$((15))", 5).gives("$s$t$#", "[" + xs(599) + "0]").errs("$s$t${#s}", 5);
        b.gives("$s${n-$s}", "[" + xs(600) + "]").errs("$s${n-$s.}", 5).errs("$s${n-$s}.", 5).gives("$s${n=$s}", "[" + xs(600) + "]").errs("$s${m=$s}.", 5).has("m", null);
        b.gives("~/${t}" + xs(100), "[" + xs(200) + "/" + xs(399) + "]").errs("~/${s}" + xs(100), 5);
        b.parameters(xs(300), xs(300), "").gives("$@", "[" + xs(300) + "][" + xs(300) + "]").errs("$@.", 5).gives("\"$@\"", "[" + xs(300) + "][" + xs(300) + "][]").errs("\"$@.\"", 5);
    }

    /** "the w of LESS of more than 600". */
    private static void wOfLessOf600() {
        Bench b = new Bench().set("s", xs(300)).set("v", "yz");
        for (String sign : new String[] {"#", "##", "%", "%%"}) {
            b.gives("${v" + sign + "$s$s}", "[yz]").errs("${v" + sign + "$s$s.}", 5).errs("\"${v" + sign + "'.'$s$s}\"", 5).gives("\"${v" + sign + "$s\"$s\"''}\"", "[yz]");
        }
        b.gives("a=${v#$s$s}", "").has("a", "yz").gives("${v#${n-$s}$s}", "[yz]").errs("${v#${n-$s.}$s}", 5);
        b.gives("m='" + Bench.times("*", 300) + "' ${v##$m$m}.", "[.]").gives("q='" + Bench.times("[y]", 100) + "' ${v#${q}${q}}", "[yz]");
    }

    /** "more than 64 fields". */
    private static void fields64() {
        Bench b = new Bench().set("s", Bench.times("f ", 64)).set("t", Bench.times("f ", 65));
        b.gives(Bench.times("f ", 64), Bench.times("[f]", 64)).errs(Bench.times("f ", 65), 5).gives(Bench.times("''\n", 64), Bench.times("[]", 64)).errs(Bench.times("''\n", 65), 5);
        b.gives("$s", Bench.times("[f]", 64)).errs("$t", 5).errs("${s}f", 5).errs("$s f", 5).errs("f $s", 5).gives("$s $n", Bench.times("[f]", 64)).errs("$s $n \"$n\"", 5);
        b.gives("IFS=, s='" + Bench.times(",", 64) + "' $s", Bench.times("[]", 64)).errs("$s,", 5).errs("${s}$s", 5);
        Bench c = new Bench().parameters(Bench.times("f,", 16).split(","));
        c.gives("\"$@\" \"$@\" $@ $*", Bench.times("[f]", 64)).errs("\"$@\" \"$@\" $@ $* f", 5).errs("f$@ $@ $@ f \"$@\"", 5);
        Bench d = new Bench();
        for (int i = 0; i < 64; i++) {
            d.type("/f" + i).x.make(1);
        }
        Bench.same("64 paths", d.line("*"), 64);
        d.errs("* f", 5).errs("f *", 5).type("/more").x.make(1);
        d.errs("*", 5).errs("/*", 5);
        Bench.same("64 of 65 paths", d.line("f*"), 64);
    }

    /** "more than 2,000 bytes in all of them". */
    private static void fieldsOf2000() {
        Bench b = new Bench().set("s", xs(300)).set("t", xs(200)).set("l", xs(99));
        Bench.same("2000", b.line("$s$s $s$s $s$s $t"), 4);
        Bench.same("the last byte", b.x.byteOf(3, 199), (int) 'x');
        b.errs("$s$s $s$s $s$s ${t}x", 5).errs("x $s$s $s$s $s$s $t", 5).errs("$s$s $s$s $s$s $t x", 5);
        Bench.same("with empty ones", b.line("$s$s '' $s$s $s$s $t ''"), 6);
        b.gives("w='" + xs(100) + " " + xs(100) + "'", "");
        Bench.same("parted, the seam does not count", b.line("$s$s $s$s $s$s $w"), 5);
        b.errs("$s$s $s$s $s$s \"$w\"", 5).type("/ab").x.make(1);
        Bench.same("as a path", b.line("$s$s $s$s $s$s $l$l a?"), 5);
        b.errs("$s$s $s$s $s$s $l${l}x a?", 5).errs("$s$s $s$s $s$s $l$l a??", 5).type("/ac").x.make(1);
        b.errs("$s$s $s$s $s$s $l$l a?", 5);
    }

    /** "numbers of 1 to 18 digits"; "1 to 18 digits, perhaps - before them". */
    private static void digits18() {
        Bench b = new Bench().gives("a=123456789012345678 b=-123456789012345678 c=1234567890123456789 d=-1234567890123456789 z=000000000000000000", "");
        b.gives("$((123456789012345678)) $((-123456789012345678)) $((000000000000000001))", "[123456789012345678][-123456789012345678][1]");
        b.errs("$((1234567890123456789))", 4).errs("$((0000000000000000001))", 4).errs("$((-1234567890123456789))", 4).errs("$((0&&1234567890123456789))", 4);
        b.gives("$((a)) $((b)) $((z)) $((-b))", "[123456789012345678][-123456789012345678][0][123456789012345678]").errs("$((c))", 4).errs("$((d))", 4);
        b.gives("$((0&&c)) $((c=1)) $c", "[0][1][1]").errs("$((d+=1))", 4);
        b.gives("$((e=999999999999999999+1)) $e", "[1000000000000000000][1000000000000000000]").errs("$((e))", 4).errs("$((e+=1))", 4).has("e", "1000000000000000000");
    }

    /** "the seventh of FORMS and REACHES within each other (at its $)". */
    private static void sixWithinEachOther() {
        String[] opens = {"${n-", "${n=", "${n+", "$((", "${n#", "${n%%"};
        for (String outer : opens) {
            for (String inner : opens) {
                StringBuilder line = new StringBuilder();
                StringBuilder ends = new StringBuilder();
                for (int i = 0; i < 6; i++) {
                    String open = i % 2 == 0 ? outer : inner;
                    line.append(open);
                    ends.insert(0, open.equals("$((") ? "))" : "}");
                }
                Bench.same(line + "1" + ends, new Bench().line(line + "1" + ends) >= -26 && new Bench().line(line + "1" + ends) != -14, true);
                new Bench().faults(line + "${n}" + ends, 4, line.length()).faults(line + "1$((1))" + ends, 4, line.length() + 1).faults(line + "${", 4, line.length());
                Bench.same(line + "$n" + ends, new Bench().line(line + "$n" + ends) != -14, true);
                Bench.same("one behind the other", new Bench().line(line + "1" + ends + line + "1" + ends) != -14, true);
            }
        }
        new Bench().gives("${n-${n-${n-${n-${n-${n-x}}}}}}", "[x]").gives("$(($(($(($(($(($((7))))))))))))", "[7]").gives("${n-1${n-2}3${n-4}5}", "[12345]");
    }

    /** "each with a name of 1 .. 10 bytes (no / ; not . and ..)". */
    private static void namesOfTheTree() {
        Bench b = new Bench().tree("/a/", "/1234567890/", "/1234567890/1234567890", "/.../", "/.a", "/..a");
        b.gives("* .*", "[1234567890][a][...][..a][.a]").gives("*/*", "[1234567890/1234567890]").gives("????????? ??????????", "[?????????][1234567890]");
        for (String bad : new String[] {"/", "/12345678901", "/a/12345678901", "/.", "/..", "/a/.", "/a/..", "/a/", "//"}) {
            Bench.same("make " + bad, b.type(bad).x.make(0), LineExpander.BAD);
        }
        Bench.same("how many", b.x.count(3), 7);
    }
}
