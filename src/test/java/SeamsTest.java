import java.util.regex.Matcher;
import java.util.regex.Pattern;

/**
 * PARTING: all short texts of blanks, another byte of IFS and letters, alone and beside other things,
 * against the SEAMS of the document written as a pattern over kinds of bytes.
 */
public final class SeamsTest {
    /** "a run of white ones, one that is not white with all white ones beside it, or a BREAK with all white ones beside it". */
    private static final Pattern SEAM = Pattern.compile("w*[hb]w*|w+");
    private static final String LETTERS = "a ,";

    public static void main(String[] args) {
        values();
        pairs();
        parameters();
        namedOnes();
        whiteOnes();
        whatIsLoose();
        Bench.close();
    }

    /** What a word gives: kinds tells of each byte c (content), q (quotes stood), w, h or b; q and b have a byte that doesn't count. */
    private static String due(String bytes, String kinds) {
        StringBuilder all = new StringBuilder();
        Matcher seams = SEAM.matcher(kinds);
        int from = 0;
        while (from <= kinds.length()) {
            boolean more = seams.find();
            int to = more ? seams.start() : kinds.length();
            boolean ended = more && seams.group().indexOf('h') >= 0;
            if (to > from || ended) {
                all.append('[');
                for (int i = from; i < to; i++) {
                    all.append(kinds.charAt(i) == 'c' ? bytes.substring(i, i + 1) : "");
                }
                all.append(']');
            }
            if (!more) {
                break;
            }
            from = seams.end();
        }
        return all.toString();
    }

    private static String kinds(String value, String ifs) {
        StringBuilder all = new StringBuilder();
        for (char c : value.toCharArray()) {
            all.append(ifs.indexOf(c) < 0 ? 'c' : c == ' ' || c == '\t' || c == '\n' ? 'w' : 'h');
        }
        return all.toString();
    }

    private static String text(int number, int size) {
        StringBuilder all = new StringBuilder();
        int rest = number;
        for (int i = 0; i < size; i++) {
            all.append(LETTERS.charAt(rest % 3));
            rest /= 3;
        }
        return all.toString();
    }

    private static void values() {
        for (String ifs : new String[] {" ,", ",", " ", "", "a", ", a"}) {
            int many = 1;
            for (int size = 0; size <= 5; size++, many *= 3) {
                for (int i = 0; i < many; i++) {
                    value(text(i, size), ifs);
                }
            }
        }
    }

    private static void value(String v, String ifs) {
        Bench b = new Bench().set("v", v).set("IFS", ifs);
        String k = kinds(v, ifs);
        b.gives("$v", due(v, k)).gives("x${v}y", due("x" + v + "y", "c" + k + "c")).gives("''$v", due("." + v, "q" + k)).gives("$v\"\"", due(v + ".", k + "q"));
        b.gives("$v$v", due(v + v, k + k)).gives("$v''$v", due(v + "." + v, k + "q" + k)).gives("\"$v\"$v", due("." + v + v, "q" + v.replaceAll(".", "c") + k));
        b.gives("${n-$v}", due(v, k)).gives("${n-x$v}", due("x" + v, kinds("x", ifs) + k)).gives("\"$v\"", "[" + v + "]");
    }

    /** One word behind the other: each is parted alone. */
    private static void pairs() {
        for (int i = 0; i < 27; i++) {
            for (int k = 0; k < 27; k++) {
                for (int size = 1; size <= 3; size++) {
                    String v = text(i, 3);
                    String w = text(k, size);
                    new Bench().set("v", v).set("w", w).set("IFS", " ,").gives("$v $w", due(v, kinds(v, " ,")) + due(w, kinds(w, " ,")));
                }
            }
        }
    }

    private static void parameters() {
        for (int i = 0; i < 27; i++) {
            for (int k = 0; k < 27; k++) {
                String p = text(i, 3).trim();
                String q = text(k, 3).trim();
                for (String ifs : new String[] {" ,", ","}) {
                    Bench b = new Bench().parameters(p, text(k, 2), q).set("IFS", ifs);
                    String bytes = p + "." + text(k, 2) + "." + q;
                    String kinds = kinds(p, ifs) + "b" + kinds(text(k, 2), ifs) + "b" + kinds(q, ifs);
                    b.gives("$@", due(bytes, kinds)).gives("$*", due(bytes, kinds)).gives("x$@y", due("x" + bytes + "y", "c" + kinds + "c"));
                    b.gives("\"$@\"", "[" + p + "][" + text(k, 2) + "][" + q + "]").gives("\"$*\"", "[" + p + ifs.charAt(0) + text(k, 2) + ifs.charAt(0) + q + "]");
                }
            }
        }
    }

    /** "White ones alone at the beginning and the end of a word, or beside a BREAK, part nothing more." */
    private static void namedOnes() {
        Bench b = new Bench().gives("v=' a ' w=' ' c=, IFS=' ,'", "");
        b.gives("$v", "[a]").gives("$w$v$w", "[a]").gives("x$v", "[x][a]").gives("$v$c", "[a]").gives("$v$c$c", "[a][]").gives("$c$v", "[][a]").gives("$w", "").gives("$c", "[]").gives("$w$c$w", "[]").gives("$c$w$c", "[][]");
        b.parameters(" a ", " ", " b ").gives("$@", "[a][b]").gives("x$@y", "[x][a][b][y]").parameters(",", "a").gives("$@", "[][a]").parameters("a", ",").gives("$@", "[a][]").parameters("a,", ",b").gives("$@", "[a][][b]");
        b.parameters("a", "", "b").gives("$@", "[a][b]").gives("\"$@\"", "[a][][b]").gives("$@''", "[a][b]").gives("''$@", "[a][b]").parameters("", "").gives("''$@", "[]").gives("$@''", "[]").gives("''$@''", "[][]");
    }

    /** "those of 32, 9, 10 are WHITE"; "(32, 9, 10, if that is not set; none, if it is empty)". */
    private static void whiteOnes() {
        for (int c = 32; c < 127; c++) {
            if (c != '\'') {
                Bench b = new Bench().set("v", "1" + (char) c + (char) c + "2" + (char) c);
                boolean same = c == '1' || c == '2';
                boolean sign = "*?[".indexOf(c) >= 0;
                if (c != ' ' && !sign) {
                    b.gives("$v", "[1" + (char) c + (char) c + "2" + (char) c + "]");
                }
                b.set("IFS", "" + (char) c);
                if (!same) {
                    b.gives("$v", c == ' ' ? "[1][2]" : "[1][][2]").gives("\"$v\"", "[1" + (char) c + (char) c + "2" + (char) c + "]");
                }
            }
        }
        for (String white : new String[] {"\t", "\n", " "}) {
            Bench b = new Bench().set("v", white + "1" + white + white + "2" + white).gives("$v", "[1][2]").set("IFS", white).gives("$v", "[1][2]").set("IFS", ":").gives("$v", "[" + white + "1" + white + white + "2" + white + "]");
            b.set("IFS", white + ":").set("v", white + ":" + white + "1" + white + ":2:").gives("$v", "[][1][2]").set("IFS", "").gives("\"$v\" $v", "[" + white + ":" + white + "1" + white + ":2:][" + white + ":" + white + "1" + white + ":2:]");
        }
    }

    /** "by the LOOSE bytes": not by those of the line itself, nor by quoted ones. */
    private static void whatIsLoose() {
        Bench b = new Bench().set("v", "1-2").set("HOME", "3-4").set("IFS", "-3");
        b.gives("a-b \"$v\" '-' \\- ~", "[a-b][1-2][-][-][3-4]").gives("$v a-$v", "[1][2][a-1][2]").gives("$((13-6-20)) \"$((0-3))\"", "[][1][-3]").gives("${#v} $((3))x \"${#v}\" \"$((3))\"", "[][][x][3][3]");
        b.gives("${n-a-b} ${n-a\"-\"b} ${n-'-'} ${n-\\-} \"${n-a-b}\"", "[a][b][a-b][-][-][a-b]").gives("${v#1} ${v%2}x ${v+c-d} ${m=e-f} $m", "[][2][1][x][c][d][e][f][e][f]").gives("${k='g-'h-i} $k", "[g-h][i][g][h][i]");
        b.gives("a=$v b=${n-x-y} c=~", "").has("a", "1-2").has("b", "x-y").has("c", "3-4");
    }
}
