/** REACHES against Java's own numbers of 64 bits: what wraps, what is shifted, and what binds more. */
public final class WrappingTest {
    /** The signs between two, from what binds most on, those that bind alike in one row. */
    private static final String[][] SIGNS = {{"*", "/", "%"}, {"+", "-"}, {"<<", ">>"}, {"<", "<=", ">", ">="}, {"==", "!="}, {"&"}, {"^"}, {"|"}, {"&&"}, {"||"}};
    private static final long[] EDGES = {0, 1, -1, 2, -2, 7, -7, 63, 64, 65, -63, -64, 999999999999999999L, -999999999999999999L, Long.MAX_VALUE, Long.MAX_VALUE - 1,
        Long.MIN_VALUE, Long.MIN_VALUE + 1, 1L << 62, -(1L << 62), 1L << 32, (1L << 31) - 1, 0x5555555555555555L};

    private static boolean divided;

    public static void main(String[] args) {
        alone();
        pairs();
        given();
        binding();
        bindingBefore();
        choices();
        Bench.close();
    }

    /** A number as it can be written, of 18 digits at most. */
    private static String written(long number) {
        long high = number >> 40;
        long low = number - (high << 40);
        String text = high == 0 || number == low ? Long.toString(number) : "((" + high + "<<40)+" + low + ")";
        return number == -1 || number < 0 && number > -1000 ? "(" + number + ")" : text;
    }

    private static void is(Bench b, String text, long due) {
        b.gives("$((" + text + "))", "[" + due + "]");
    }

    private static void alone() {
        for (long a : EDGES) {
            Bench b = new Bench();
            is(b, written(a), a);
            is(b, "-" + written(a), -a);
            is(b, "+" + written(a), a);
            is(b, "~" + written(a), ~a);
            is(b, "!" + written(a), a == 0 ? 1 : 0);
            is(b, "- -" + written(a), a);
            is(b, "!!" + written(a), a == 0 ? 0 : 1);
        }
    }

    private static void pairs() {
        for (String[] row : SIGNS) {
            for (String sign : row) {
                for (long a : EDGES) {
                    Bench b = new Bench();
                    for (long c : EDGES) {
                        divided = false;
                        long due = two(sign, a, c);
                        String text = written(a) + sign + written(c);
                        if (divided) {
                            b.errs("$((" + text + "))", 4);
                        } else {
                            is(b, text, due);
                        }
                    }
                }
            }
        }
    }

    /** Likewise what a NAME gets: it has all digits of the number, and is read again up to 18. */
    private static void given() {
        for (long a : EDGES) {
            for (String sign : new String[] {"+", "-", "*", "/", "%"}) {
                for (long c : new long[] {1, -1, 7, Long.MIN_VALUE, Long.MAX_VALUE}) {
                    Bench b = new Bench();
                    is(b, "v=" + written(a), a);
                    b.has("v", Long.toString(a));
                    boolean read = a > -1000000000000000000L && a < 1000000000000000000L;
                    if (read) {
                        is(b, "v" + sign + "=" + written(c), two(sign, a, c));
                        b.has("v", Long.toString(two(sign, a, c)));
                    } else {
                        b.errs("$((v" + sign + "=" + written(c) + "))", 4).has("v", Long.toString(a));
                    }
                }
            }
        }
        new Bench().errs("$((v/=0))", 4).errs("$((v%=0))", 4).has("v", null);
    }

    private static long two(String sign, long a, long b) {
        if ((sign.equals("/") || sign.equals("%")) && b == 0) {
            divided = true;
            return 0;
        }
        switch (sign) {
            case "*": return a * b;
            case "/": return a / b;
            case "%": return a % b;
            case "+": return a + b;
            case "-": return a - b;
            case "<<": return a << b;
            case ">>": return a >> b;
            case "&": return a & b;
            case "^": return a ^ b;
            case "|": return a | b;
            default: return holds(sign, a, b) ? 1 : 0;
        }
    }

    private static boolean holds(String sign, long a, long b) {
        switch (sign) {
            case "<": return a < b;
            case "<=": return a <= b;
            case ">": return a > b;
            case ">=": return a >= b;
            case "==": return a == b;
            case "!=": return a != b;
            case "&&": return a != 0 && b != 0;
            default: return a != 0 || b != 0;
        }
    }

    /** "From what binds most on": of two signs the one that binds more, else the left one, goes first. */
    private static void binding() {
        long[][] threes = {{7, 3, 2}, {0, 5, 1}, {-9, 4, 3}, {1, 0, 6}, {12, 6, 0}};
        for (int i = 0; i < SIGNS.length; i++) {
            for (int k = 0; k < SIGNS.length; k++) {
                for (String first : SIGNS[i]) {
                    for (String second : SIGNS[k]) {
                        Bench b = new Bench();
                        for (long[] t : threes) {
                            three(b, t, first, second, i <= k);
                        }
                    }
                }
            }
        }
    }

    private static void three(Bench b, long[] t, String first, String second, boolean leftFirst) {
        divided = false;
        long due = leftFirst ? two(second, two(first, t[0], t[1]), t[2]) : 0;
        if (!leftFirst) {
            boolean settled = first.equals("&&") && t[0] == 0 || first.equals("||") && t[0] != 0;
            due = settled ? (t[0] != 0 ? 1 : 0) : two(first, t[0], two(second, t[1], t[2]));
        }
        for (String gap : new String[] {"", " ", "\t\n"}) {
            String text = t[0] + gap + first + gap + t[1] + gap + second + gap + t[2];
            if (divided) {
                b.errs("$((" + text + "))", 4);
            } else {
                is(b, text, due);
            }
        }
    }

    /** - + ! ~ bind more than all signs between two. */
    private static void bindingBefore() {
        Bench b = new Bench();
        for (String[] row : SIGNS) {
            for (String sign : row) {
                is(b, "-5" + sign + "3", two(sign, -5, 3));
                is(b, "~5" + sign + "3", two(sign, ~5, 3));
                is(b, "!5" + sign + "3", two(sign, 0, 3));
                is(b, "5" + sign + "-3", two(sign, 5, -3));
                is(b, "5" + sign + " ~3", two(sign, 5, ~3));
                is(b, "5" + sign + "+3", two(sign, 5, 3));
                is(b, "(5" + sign + "3)", two(sign, 5, 3));
                is(b, "-(5" + sign + "3)", -two(sign, 5, 3));
            }
        }
    }

    /** ? : binds less than all of these, = less than that. */
    private static void choices() {
        for (String[] row : SIGNS) {
            for (String sign : row) {
                Bench b = new Bench();
                is(b, "0?1:6" + sign + "4", two(sign, 6, 4));
                is(b, "1?6" + sign + "4:9", two(sign, 6, 4));
                is(b, "6" + sign + "4?8:9", two(sign, 6, 4) != 0 ? 8 : 9);
                is(b, "v=6" + sign + "4", two(sign, 6, 4));
                b.has("v", Long.toString(two(sign, 6, 4)));
                is(b, "w=0?1:6" + sign + "4", two(sign, 6, 4));
                b.has("w", Long.toString(two(sign, 6, 4)));
                b.errs("$((1" + sign + "v=2))", 4).errs("$((0?1:v=2))", 4);
                is(b, "1" + sign + "(v=2)", two(sign, 1, 2));
                is(b, "1?v=3:4", 3);
                b.has("v", "3");
                boolean yes = two(sign, 6, 4) != 0;
                is(b, "6" + sign + "4?v=5:7", yes ? 5 : 7);
                b.has("v", yes ? "5" : "3");
            }
        }
        Bench b = new Bench();
        for (String[] each : new String[][] {{"1&&1", "1"}, {"1&&0", "0"}, {"0&&1", "0"}, {"0||1", "1"}, {"0||0", "0"}, {"1||0", "1"}, {"1?4:5", "4"}, {"0?4:5", "5"},
            {"1&&1&&1", "1"}, {"0||0||1", "1"}, {"1?1?6:7:8", "6"}, {"0?1:0?2:9", "9"}, {"c=1&&2", "1"}, {"c=0?1:7", "7"}}) {
            long value = Long.parseLong(each[1]);
            is(b, "30+(" + each[0] + ")", 30 + value);
            is(b, "30-(" + each[0] + ")*(" + each[0] + ")", 30 - value * value);
            is(b, "(" + each[0] + ")*10+(" + each[0] + ")", 11 * value);
            is(b, "-(" + each[0] + ")<<2", -value << 2);
        }
        is(b, "0?1:0?2:3", 3);
        is(b, "0?1:1?2:3", 2);
        is(b, "1?0?1:2:3", 2);
        is(b, "1?1:0?2:3", 1);
        is(b, "a=b=4", 4);
        b.has("a", "4").has("b", "4");
        is(b, "a+=b-=1", 7);
        b.has("a", "7").has("b", "3");
    }
}
