/**
 * PATTERNS: all short ones over the signs that matter, against a matcher that follows the
 * document's words one by one; and the sets' edges by name.
 */
public final class PatternsTest {
    private static final String SIGNS = "ac*?[]!-";
    private static final String[] TEXTS = {"", "a", "b", "c", "-", "]", "[", "!", "*", "ab", "ca", "aa", "[a", "a]", "[a]", "[]", "!a", "a-c", "b]c", "aba"};

    public static void main(String[] args) {
        for (int size = 0; size <= 3; size++) {
            all(size, TEXTS);
        }
        all(4, new String[] {"a", "b", "-", "]", "[a", "[a-]", "!c"});
        sets();
        ranges();
        setsThatDoNotEnd();
        quotedSigns();
        shortestAndLongest();
        Bench.close();
    }

    private static void all(int size, String[] texts) {
        int many = 1;
        for (int i = 0; i < size; i++) {
            many *= SIGNS.length();
        }
        for (int number = 0; number < many; number++) {
            StringBuilder pattern = new StringBuilder();
            int rest = number;
            for (int i = 0; i < size; i++) {
                pattern.append(SIGNS.charAt(rest % SIGNS.length()));
                rest /= SIGNS.length();
            }
            if (isPlain(pattern.toString())) {
                against(pattern.toString(), texts);
            }
        }
    }

    /** What the document leaves open is left out: bytes from one down to a lower one. */
    private static boolean isPlain(String pattern) {
        for (int i = 1; i + 1 < pattern.length(); i++) {
            if (pattern.charAt(i) == '-' && pattern.charAt(i - 1) > pattern.charAt(i + 1)) {
                return false;
            }
        }
        return true;
    }

    private static void against(String pattern, String[] texts) {
        Bench b = new Bench().set("p", pattern);
        for (String text : texts) {
            StringBuilder due = new StringBuilder();
            due.append('[').append(text.substring(least(pattern, text))).append("][").append(text.substring(most(pattern, text))).append(']');
            due.append('[').append(text, 0, text.length() - leastEnding(pattern, text)).append("][").append(text, 0, text.length() - mostEnding(pattern, text)).append(']');
            b.set("t", text).gives("\"${t#$p}\" \"${t##$p}\" \"${t%$p}\" \"${t%%$p}\"", due.toString());
        }
    }

    private static int least(String pattern, String text) {
        int size = 0;
        while (size <= text.length() && !matches(pattern, text.substring(0, size))) {
            size++;
        }
        return size > text.length() ? 0 : size;
    }

    private static int most(String pattern, String text) {
        int size = text.length();
        while (size > 0 && !matches(pattern, text.substring(0, size))) {
            size--;
        }
        return size;
    }

    private static int leastEnding(String pattern, String text) {
        int size = 0;
        while (size <= text.length() && !matches(pattern, text.substring(text.length() - size))) {
            size++;
        }
        return size > text.length() ? 0 : size;
    }

    private static int mostEnding(String pattern, String text) {
        int size = text.length();
        while (size > 0 && !matches(pattern, text.substring(text.length() - size))) {
            size--;
        }
        return size;
    }

    static boolean matches(String pattern, String text) {
        if (pattern.isEmpty()) {
            return text.isEmpty();
        }
        char sign = pattern.charAt(0);
        String rest = pattern.substring(1);
        if (sign == '*') {
            return matches(rest, text) || !text.isEmpty() && matches(pattern, text.substring(1));
        }
        if (text.isEmpty()) {
            return false;
        }
        String behind = text.substring(1);
        if (sign == '?') {
            return matches(rest, behind);
        }
        boolean not = rest.startsWith("!");
        int first = not ? 1 : 0;
        int end = sign == '[' && rest.length() > first ? rest.indexOf(']', first + 1) : -1;
        if (end >= 0) {
            return isOf(rest.substring(first, end), text.charAt(0)) != not && matches(rest.substring(end + 1), behind);
        }
        return sign == text.charAt(0) && matches(rest, behind);
    }

    /** "bytes, or two with - between, all from the one to the other". */
    private static boolean isOf(String bytes, char b) {
        if (bytes.isEmpty()) {
            return false;
        }
        if (bytes.length() >= 3 && bytes.charAt(1) == '-') {
            return b >= bytes.charAt(0) && b <= bytes.charAt(2) || isOf(bytes.substring(3), b);
        }
        return b == bytes.charAt(0) || isOf(bytes.substring(1), b);
    }

    private static void fits(String set, String yes, String no) {
        Bench b = new Bench();
        for (char c : yes.toCharArray()) {
            b.set("c", "" + c).gives("${c#" + set + "}.", "[.]").gives("\"${c%%" + set + "}.\"", "[.]");
        }
        for (char c : no.toCharArray()) {
            b.set("c", "" + c).gives("\"${c#" + set + "}.\"", "[" + c + ".]");
        }
    }

    private static void sets() {
        fits("?", "a*?[]!-/. ~\t\n", "");
        fits("[abc]", "abc", "dA[]-!");
        fits("[!abc]", "dA[]-!/. \n", "abc");
        fits("[a]", "a", "b");
        fits("[]]", "]", "[a");
        fits("[]a]", "]a", "[b");
        fits("[!]]", "[a!", "]");
        fits("[!]a]", "[b!", "]a");
        fits("[[]", "[", "]a");
        fits("[a!]", "a!", "b");
        fits("[!!]", "ab", "!");
        fits("[*?]", "*?", "a[");
        fits("[.]", ".", "a");
        fits("[/]", "/", "a");
    }

    private static void ranges() {
        fits("[b-d]", "bcd", "ae-BCD");
        fits("[!b-d]", "ae-B", "bcd");
        fits("[b-b]", "b", "ac-");
        fits("[a-]", "a-", "b");
        fits("[-a]", "a-", "b");
        fits("[!a-]", "b", "a-");
        fits("[!-a]", "b", "a-");
        fits("[-]", "-", "a");
        fits("[!-]", "a", "-");
        fits("[a-c-e]", "abc-e", "d");
        fits("[a-cx-z0-9]", "abcxyz059", "dw:/-");
        fits("[]-a]", "]^_`a", "\\b-[");
        fits("[ -~]", " !0Aa~", "\t\n");
        fits("[?-A]", "?@A", ">B");
        fits("[+--]", "+,-", "*.");
        fits("[\t-\n]", "\t\n", " a");
    }

    /** "a [ without its end" stands for itself. */
    private static void setsThatDoNotEnd() {
        Bench b = new Bench().set("t", "[ab]c");
        b.gives("${t#[} ${t#[a} ${t#[[}", "[ab]c][b]c][[ab]c]").gives("${t#[[]} ${t#[ab} ${t#[ab\\]}", "[ab]c][]c][c]").gives("${t#[ab\"]\"c}. ${t#[*c}. ${t#[ab]}", "[.][.][[ab]c]");
        b.set("t", "[]").gives("${t#[]}. ${t#[}", "[.][]]").set("t", "[!]x").gives("${t#[!]} ${t#[!}", "[x][]x]").set("t", "a[").gives("${t#a[}. ${t%[}", "[.][a]");
    }

    /** "what is quoted stands for itself". */
    private static void quotedSigns() {
        Bench b = new Bench().set("t", "*?[a]-!").set("q", "*").set("r", "[ab]");
        b.gives("\"${t#\\*}\" \"${t#'*?'}\" \"${t#\"*?[\"}\" \"${t#\"$q\"}\" \"${t##$q}\"", "[?[a]-!][[a]-!][a]-!][?[a]-!][]");
        fits("['a-c']", "a-c", "b");
        fits("[a\\-c]", "a-c", "b");
        fits("[a\"-\"c]", "a-c", "b");
        fits("['!'a]", "!a", "b");
        fits("[\\!a]", "!a", "b");
        fits("[a\\]]", "a]", "b[");
        fits("[\"]\"a]", "a]", "b[");
        fits("['a'-'c']", "abc", "d-");
        fits("\\[", "[", "a");
        fits("\\?", "?", "a");
        b.set("c", "a").gives("${c#$r}. ${c#\"$r\"}. ${c#'['ab]}. ${c#[ab\"]\"}.", "[.][a.][a.][a.]");
    }

    private static void shortestAndLongest() {
        Bench b = new Bench().set("t", "abcabc");
        b.gives("${t#a*c} ${t##a*c}. ${t%a*c} ${t%%a*c}.", "[abc][.][abc][.]").gives("${t#*} ${t##*}. ${t%*} ${t%%*}.", "[abcabc][.][abcabc][.]").gives("${t#?} ${t##?} ${t%?} ${t%%?}", "[bcabc][bcabc][abcab][abcab]");
        b.gives("${t#abcabc}. ${t#abcabcd} ${t%abcabc}. ${t%xabcabc}", "[.][abcabc][.][abcabc]").gives("${t#b} ${t##b*} ${t%b} ${t%%*b}", "[abcabc][abcabc][abcabc][abcabc]").gives("${t#} ${t##} ${t%} ${t%%}", "[abcabc][abcabc][abcabc][abcabc]");
        b.set("t", Bench.times("a", 300)).gives("${t##*a}. ${t#*a*a} ${#t}", "[.][" + Bench.times("a", 298) + "][300]");
        b.set("p", Bench.times("*a", 150)).gives("${t##$p}. ${t#$p} ${t%%${p}b}.", "[.][" + Bench.times("a", 150) + "][" + Bench.times("a", 300) + ".]");
    }
}
