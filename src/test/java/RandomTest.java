import java.util.Random;

/**
 * Runs of calls with arguments by chance, always the same ones, as long as an object may be used: no
 * call may throw or answer what no promise tells, and a line that goes wrong may leave nothing behind.
 */
public final class RandomTest {
    private static final String[] PIECES = {"a", "b", "IFS", "HOME", "x", "0", "1", "9", "10", "21", " ", "\t", "\n", "'", "\"", "\\", "$", "${", "}",
        "$((", "))", "(", ")", "`", "~", "~u", ":", "/", ".", "..", "*", "?", "[", "]", "!", "-", "=", "+", "#", "##", "%", "%%", "@", "$@", "$*", "$#", "\"$@\"",
        "${a-", "${b:=", "${x+", "${a#", "${a%%", "${#a}", "$a", "$b", "a=", "b=", "x=", "IFS=", "HOME=", "<<", ">>", "<=", "&&", "||", "^", "+=", "/=", "%=", ",", "longname",
        "d/*", "*/*", "${n?", "${a:-b c}", "$((a+=1))", "$((b=2))", "'*'", "\"$a\"", "$1", "${2-", "${10}", "\1", "\377"};

    /** More than what one step and the lines behind it can take. */
    private static final int STEP_CALLS = 80;

    private final Random random;
    private final Bench bench = new Bench();

    private RandomTest(long seed) {
        random = new Random(seed);
    }

    public static void main(String[] args) {
        for (int run = 0; run < 3000; run++) {
            new RandomTest(run).go();
        }
        Bench.close();
    }

    private void go() {
        bench.tree("/d/", "/d/a", "/d/.b", "/a", "/x/", "/x/a").parameters("p q", "", "*");
        while (bench.x.changesLeft() > STEP_CALLS) {
            call(random.nextInt(14));
            oneLine(text(random.nextInt(5) == 0 ? 120 : 12));
        }
        for (int what = 0; what < 7; what++) {
            int[] most = {520, 30, 20, 80, 8, 64, 30};
            int many = bench.x.count(what);
            Bench.same("count(" + what + ") in its bounds", many >= 0 && many <= most[what], true);
        }
    }

    private String text(int most) {
        StringBuilder all = new StringBuilder();
        int pieces = random.nextInt(most);
        for (int i = 0; i < pieces; i++) {
            all.append(PIECES[random.nextInt(random.nextInt(4) == 0 ? PIECES.length : PIECES.length - 2)]);
        }
        return all.substring(0, Math.min(all.length(), 520));
    }

    private int number() {
        int[] odd = {-1, 0, 1, 2, 3, 20, 21, 64, 500, Integer.MAX_VALUE, Integer.MIN_VALUE, random.nextInt()};
        return odd[random.nextInt(odd.length)];
    }

    private void call(int which) {
        Subject x = bench.x;
        switch (which) {
            case 0: x.feed(number(), number(), number(), number(), number()); break;
            case 1: x.end(number()); break;
            case 2: x.field(number()); break;
            case 3: x.byteOf(number(), number()); break;
            case 4: x.message(number()); break;
            case 5: bench.type(text(4)).x.value(); break;
            case 6: bench.type(text(6)).x.parameter(); break;
            case 7: x.shift(number()); break;
            case 8: bench.type(text(3)).x.mark(number()); break;
            case 9: bench.type("u=" + text(3)).x.user(); break;
            case 10: bench.type("/" + text(3)).x.make(number()); break;
            case 11: bench.type("/" + text(3)).x.drop(); break;
            case 12: bench.type("/" + text(2)).x.go(); break;
            default: x.strict(random.nextBoolean()); break;
        }
    }

    private void oneLine(String text) {
        Subject x = bench.x;
        x.line();
        String before = variables();
        int answer = bench.line(text);
        boolean told = answer >= -1 && answer <= 64 || answer <= -11 && answer >= -14 || answer <= -21 && answer >= -26;
        Bench.same("told: " + text, told, true);
        boolean faulty = answer <= -11 && answer >= -14;
        boolean placed = x.place() >= 0 && x.place() <= text.length();
        Bench.same("place: " + text, answer == -1 || faulty == placed, true);
        Bench.same("fields: " + text, answer == -1 || x.count(5) == Math.max(answer, 0), true);
        int bytes = 0;
        int many = x.count(5);
        for (int i = 0; i < many; i++) {
            bytes += x.field(i);
        }
        Bench.same("bytes: " + text, bytes <= 2000, true);
        if (answer < 0) {
            Bench.same("nothing left behind: " + text, variables(), before);
        }
    }

    private String variables() {
        StringBuilder all = new StringBuilder().append(bench.x.count(1));
        for (String name : new String[] {"a", "b", "x", "IFS", "HOME", "longname"}) {
            int size = bench.value(name);
            all.append(';').append(size).append(size < 0 ? "" : bench.fields());
        }
        return all.toString();
    }
}
