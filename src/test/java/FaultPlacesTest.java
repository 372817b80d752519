/** The faults 1 to 4: each at its place, beside the nearest line that has none, and the first one of several. */
public final class FaultPlacesTest {
    public static void main(String[] args) {
        quotesWithoutEnd();
        backslashAtTheEnd();
        backslashWithinQuotes();
        dollarAndOneBracket();
        graveAccents();
        bytesOfAForm();
        signsOfAForm();
        howMany();
        quotesWithinForms();
        endsOfReaches();
        endOfTheLine();
        seventh();
        firstOne();
        readWholeFirst();
        Bench.close();
    }

    /** A line must be read without a fault, whatever it gives. */
    private static void read(String... lines) {
        for (String line : lines) {
            Bench b = new Bench();
            int answer = b.line(line);
            Bench.same("read: " + line, answer >= 0 || answer <= -21, true);
            Bench.same("place behind " + line, b.x.place(), LineExpander.NONE);
        }
    }

    private static Bench faulty(String line, int fault, int place) {
        return new Bench().gives("x y", "[x][y]").faults(line, fault, place);
    }

    /** "1 a ' or " without its end (there)". */
    private static void quotesWithoutEnd() {
        for (String quote : new String[] {"'", "\""}) {
            faulty(quote, 1, 0);
            faulty("a" + quote, 1, 1);
            faulty("a b" + quote + "c d", 1, 3);
            faulty(quote + "a" + quote + quote, 1, 3);
            faulty("a" + quote + "\n \t", 1, 1);
            faulty("${a-" + quote + "}", 1, 4);
            faulty("${a#" + quote + "x} y", 1, 4);
            faulty("\"${a%" + quote + "x}", 1, 5);
            read(quote + quote, "a" + quote + "b" + quote, quote + "a" + quote + quote + quote, "${a-" + quote + "}" + quote + "}", "\\" + quote);
        }
        faulty("'\"", 1, 0);
        faulty("\"'", 1, 0);
        faulty("'a'\\''", 1, 5);
        faulty("\"\\\"", 1, 0);
        faulty("\"a\"\"\\\\\\\"", 1, 3);
        faulty("\"${a}", 1, 0);
        faulty("\"${a-x}$((1))", 1, 0);
        read("'\"'", "\"'\"", "'\\'", "\"\\\"\"", "\"\\\\\"", "\"${a}\"");
    }

    /** "a \ at the end of the line (there)". */
    private static void backslashAtTheEnd() {
        faulty("\\", 1, 0);
        faulty("abc\\", 1, 3);
        faulty("\\\\\\", 1, 2);
        faulty("'\\' \\", 1, 4);
        faulty("${a-\\", 1, 4);
        faulty("${a-b\\}\\", 1, 7);
        faulty("\"${a#\\", 1, 5);
        faulty("\\\n\\", 1, 2);
        read("\\\\", "\\a", "\\\n", "a\\ ", "'\\'", "${a-\\}}", "${a-\\\\}");
    }

    /** "there \ is itself, unless ..": at the end it is what was opened last that has no end. */
    private static void backslashWithinQuotes() {
        faulty("\"\\", 1, 0);
        faulty("a \"b\\", 1, 2);
        faulty("\"${a-\\", 3, 6);
        faulty("$((\\", 3, 4);
        new Bench().gives("\"\\a\\ \\'\\}\\*\"", "[\\a\\ \\'\\}\\*]").gives("\"\\$\\\"\\\\\\`\\\n\"", "[$\"\\`]").gives("\"${n-a\\}\"", "[a\\]").gives("\"${n-\\\\}\"", "[\\]");
        new Bench().gives("\\a\\ \\'\\}\\*\\$\\\"\\`", "[a '}*$\"`]").gives("'\\a\\$\\\\'", "[\\a\\$\\\\]").errs("$((1\\))", 4).gives("$((1\\\n2))", "[12]");
    }

    /** "2 $( without another (, at the $". */
    private static void dollarAndOneBracket() {
        faulty("$(", 2, 0);
        faulty("$()", 2, 0);
        faulty("a$(b)", 2, 1);
        faulty("\"$( (", 2, 1);
        faulty("${a-$(", 2, 4);
        faulty("\"${a-$(x)}\"", 2, 5);
        faulty("$((1+$(2)))", 2, 5);
        faulty("${a#$(", 2, 4);
        faulty("$(\\\n(1))", 2, 0);
        read("$((1))", "\\$(", "'$('", "\"\\$(\"", "$\\(", "$''(", "a(b", "$((${a-1}))");
    }

    /** "a grave accent out of ' ' and not behind \". */
    private static void graveAccents() {
        faulty("`", 2, 0);
        faulty("ab`", 2, 2);
        faulty("\"`\"", 2, 1);
        faulty("\"'`'\"", 2, 2);
        faulty("${a-`", 2, 4);
        faulty("\"${a-'`'}\"", 2, 6);
        faulty("${a#x`}", 2, 5);
        faulty("$((`))", 2, 3);
        faulty("\\\\`", 2, 2);
        faulty("\"\\\\`\"", 2, 3);
        faulty("'' `", 2, 3);
        new Bench().gives("'`' \\` \"\\`\" ${n-\\`'`'} \"${n-\\`}\" a'b`c'", "[`][`][`][``][`][ab`c]").gives("\"${n#'`'}${n#\\`}\"", "[]");
    }

    /** "3 a byte that can't come in a FORM (of a number that is none, its first digit)". */
    private static void bytesOfAForm() {
        for (int c = 32; c < 127; c++) {
            boolean begins = c >= 'a' && c <= 'z' || c >= 'A' && c <= 'Z' || c >= '1' && c <= '9' || "_@*#".indexOf(c) >= 0;
            if (begins) {
                read("${" + (char) c + "}", "\"${" + (char) c + "}\"");
            } else if (c != '`') {
                faulty("${" + (char) c + "}", 3, 2);
                faulty("\"x${" + (char) c + "-y}", 3, 4);
            }
            boolean name = c >= 'a' && c <= 'z' || c >= 'A' && c <= 'Z' || c >= '0' && c <= '9' || c == '_';
            if (name || "}-=?+#%".indexOf(c) >= 0) {
                read("${a" + (char) c + "}}");
            } else if (c != ':' && c != '`') {
                faulty("${a" + (char) c + "}", 3, 3);
            }
            if ("-=?+".indexOf(c) >= 0) {
                read("${a:" + (char) c + "}");
            } else if (c != '`') {
                faulty("${a:" + (char) c + "}", 3, 4);
            }
        }
        faulty("${\\\na}", 3, 2);
        faulty("${a\\\n}", 3, 3);
        faulty("${a b}", 3, 3);
        faulty("${a\n-b}", 3, 3);
        faulty("${1a}", 3, 3);
        faulty("${1 }", 3, 3);
        faulty("${@a}", 3, 3);
        faulty("${*1}", 3, 3);
        faulty("${123}", 3, 4);
        faulty("${30}", 3, 2);
        faulty("x${0}", 3, 3);
    }

    /** "{KEY s w} with s one of # ## % %% (KEY not @ *)". */
    private static void signsOfAForm() {
        for (String key : new String[] {"a", "1", "20", "#", "longname"}) {
            for (String sign : new String[] {"-", "=", "?", "+", ":-", ":=", ":?", ":+", "#", "##", "%", "%%"}) {
                read("${" + key + sign + "w}", "\"${" + key + sign + "w}\"");
            }
            faulty("${" + key + ":#w}", 3, 3 + key.length());
            faulty("${" + key + ":%w}", 3, 3 + key.length());
            faulty("${" + key + ":}", 3, 3 + key.length());
            faulty("${" + key + "::-w}", 3, 3 + key.length());
        }
        for (String key : new String[] {"@", "*"}) {
            for (String sign : new String[] {"-", "=", "?", "+", ":-", ":=", ":?", ":+"}) {
                read("${" + key + sign + "w}");
            }
            for (String sign : new String[] {"#", "##", "%", "%%"}) {
                faulty("${" + key + sign + "w}", 3, 3);
                faulty("\"${" + key + sign + "w}\"", 3, 4);
            }
        }
    }

    /** "Behind { a # asks how many, if a KEY and } come right behind it; else it is the KEY #." */
    private static void howMany() {
        Bench b = new Bench().gives("a=abc", "").parameters("12345", "x");
        b.gives("${#a} ${#1} ${#@} ${#*} ${##} ${#}", "[3][5][2][2][1][2]").gives("${#-w} ${#+w} ${#:+w} ${#=w} ${#?w}", "[2][w][w][2][2]");
        b.gives("${#%2}. ${##2}. ${###2}. ${#%%?}. ${###} ${####}", "[.][.][.][.][2][2]");
        faulty("${#a", 3, 3);
        faulty("${#a-w}", 3, 3);
        faulty("${#a#w}", 3, 3);
        faulty("${#1 }", 3, 3);
        faulty("${#@-w}", 3, 3);
        faulty("${#0}", 3, 3);
        faulty("${#21}", 3, 3);
        faulty("${# }", 3, 3);
        faulty("${#:}", 3, 4);
        faulty("${#$a}", 3, 3);
        read("${#longname}", "${#20}", "${#_}");
    }

    /** "within " " that of - = ? + is read as there (' is itself, } ends it, a " is fault 3), that of LESS as out of them". */
    private static void quotesWithinForms() {
        for (String sign : new String[] {"-", "=", "?", "+", ":-", ":="}) {
            int at = 4 + sign.length();
            faulty("\"${a" + sign + "\"}\"", 3, at);
            faulty("\"${a" + sign + "x'\"'}\"", 3, at + 2);
            faulty("$((${a" + sign + "\"1\"}))", 3, at + 2);
            faulty("\"${b-${a" + sign + "\"}}\"", 3, at + 4);
            read("${a" + sign + "\"}\"}", "\"${a" + sign + "'}\"", "\"${a" + sign + "\\\"}\"", "${b-\"\"${a" + sign + "\"\"}}");
            faulty("${a" + sign + "'}", 1, at - 1);
        }
        for (String sign : new String[] {"#", "##", "%", "%%"}) {
            read("\"${a" + sign + "\"}\"}\"", "\"${a" + sign + "'}'}\"", "$((${a" + sign + "\"1\"}))", "\"${a" + sign + "${b-\"x\"}}\"");
            faulty("\"${a" + sign + "'}\"", 1, 4 + sign.length());
        }
        new Bench().gives("\"${n-'a}'b\"", "['a'b]").gives("${n-'a}'b}c", "[a}bc]").gives("\"${n-a\\}b}\"", "[a\\b}]").gives("${n-a\\}b}", "[a}b]").gives("${n-{a}b}", "[{ab}]");
    }

    /** "REACHES end with the first ) that has no ( of theirs before it open, which must have another one right behind". */
    private static void endsOfReaches() {
        for (int c = 32; c < 127; c++) {
            if (c != ')' && c != '`') {
                faulty("$((1)" + (char) c + ")", 3, 5);
            }
        }
        faulty("$((1)", 3, 5);
        faulty("\"$((1)\"", 3, 6);
        faulty("$((1)\n)", 3, 5);
        faulty("$((1)\\\n)", 3, 5);
        faulty("$(((1))", 3, 7);
        faulty("$(((1)) )", 3, 7);
        faulty("$((\"", 3, 3);
        faulty("$((1\"2\"))", 3, 4);
        faulty("\"$((\"1\"))\"", 3, 4);
        new Bench().gives("$(((1))) $((1))) $((1))a $(((1)+(2)))", "[1][1)][1a][3]").gives("$((${n-(}1${n-)})) $((1${n+)}))", "[1][1]").errs("$((1)))$(('2'))", 4);
    }

    /** "at the line's end: by what was opened last and is open". */
    private static void endOfTheLine() {
        faulty("${", 3, 2);
        faulty("${a", 3, 3);
        faulty("${longname", 3, 10);
        faulty("${1", 3, 3);
        faulty("${20", 3, 4);
        faulty("${@", 3, 3);
        faulty("${#", 3, 3);
        faulty("${a:", 3, 4);
        faulty("${a-", 3, 4);
        faulty("${a##", 3, 5);
        faulty("${a-b c ", 3, 8);
        faulty("$((", 3, 3);
        faulty("$((1+", 3, 5);
        faulty("$((1)", 3, 5);
        faulty("\"${a-", 3, 5);
        faulty("${a-\"", 1, 4);
        faulty("${a-\"${b-", 3, 9);
        faulty("${a-\"${b}", 1, 4);
        faulty("${a-\"b\"", 3, 7);
        faulty("\"$((1))", 1, 0);
        faulty("\"$((1", 3, 5);
        faulty("$((${a-", 3, 7);
        faulty("$((${a}", 3, 7);
        faulty("'a' \"b\" ${c} \"", 1, 13);
    }

    /** "4 the seventh of FORMS and REACHES within each other (at its $)". */
    private static void seventh() {
        faulty("${a-${a-${a-${a-${a-${a-${a}", 4, 24);
        faulty("${a-${a-${a-${a-${a-${a-$((", 4, 24);
        faulty("${a-${a-${a-${a-${a-${a-x${}", 4, 25);
        faulty("${a-${a-${a-${a-${a-${a-${a}}${a-x}", 4, 24);
        faulty("$((${a-$((${a-$((${a-$((1))", 4, 21);
        faulty("\"${a-${a-${a-${a-${a-${a-${a}", 4, 25);
        faulty("${a#\"${a#\"${a#\"${a#\"${a#\"${a#\"${a}", 4, 30);
        read("${a-${a-${a-${a-${a-${a-$a}}}}}}", "${a-${a-${a-${a-${a-${a}${a}${a-x}$((1))}}}}}", "${a-${a-${a-${a-${a-${a-'${a}'\\${a}}}}}}}}", "$((${a-$((${a-$((${a-1}))}))}))");
        faulty("${a-${a-${a-${a-${a-${a-$(", 2, 24);
        faulty("${a-${a-${a-${a-${a-${a-$longname9", 3, 33);
    }

    /** "the first one that reading from the left meets". */
    private static void firstOne() {
        faulty("` '", 2, 0);
        faulty("' `", 1, 0);
        faulty("\" `", 2, 2);
        faulty("${!} `", 3, 2);
        faulty("` ${!}", 2, 0);
        faulty("$(x ${!}", 2, 0);
        faulty("$longname9 \\", 3, 9);
        faulty("\"$longname9", 3, 10);
        faulty("${a-$longname9", 3, 13);
        faulty("${0} ${a-${a-${a-${a-${a-${a-${a", 3, 2);
        faulty("${a-${a-${a-${a-${a-${a-${a!`", 4, 24);
        faulty("$((1)x `", 3, 5);
        faulty("\"${a-\"`", 3, 5);
        faulty("\"${a-`\"", 2, 5);
    }

    /** "It is read whole before anything is expanded." */
    private static void readWholeFirst() {
        Bench b = new Bench().gives("a=1", "").errs("${n?old}", 2);
        b.faults("a=2 '", 1, 4).faults("${n?new} `", 2, 9).faults("$((a=3)) ${b=4} ${", 3, 18).faults("$((1/0)) \\", 1, 9).has("a", "1").has("b", null);
        Bench.same("the message stays", b.message(), "old");
        Bench.same("variables", b.x.count(1), 1);
    }
}
