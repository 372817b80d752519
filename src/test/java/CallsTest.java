import java.io.IOException;
import java.lang.reflect.Method;
import java.lang.reflect.Modifier;
import java.nio.file.Files;
import java.nio.file.Path;
import java.util.List;
import java.util.stream.Collectors;
import java.util.stream.Stream;

/** "An object is used for at most 512 calls": up to the last of them it answers, and no test asks for more. */
public final class CallsTest {
    public static void main(String[] args) throws Exception {
        answersUpToTheLast();
        asksNoMore();
        changesNoMore();
        hasTheFace();
        makesAllObjects();
        Bench.close();
    }

    /** The 512th call itself, of each kind that there is much behind. */
    private static void answersUpToTheLast() {
        Bench lines = new Bench();
        while (lines.x.calls() <= Subject.MOST_CALLS - 6) {
            Bench.same("line " + lines.x.calls(), lines.line("a=$((a+1)) \"$a\""), 1);
        }
        while (lines.x.calls() < Subject.MOST_CALLS - 3) {
            lines.x.strict(false);
        }
        Bench.same("the 512th call, a line", lines.line("a=$((a+1)) \"$a\" b*"), 2);
        Bench.same("calls", lines.x.calls(), Subject.MOST_CALLS);

        Bench feeds = new Bench();
        for (int i = 1; i <= Subject.MOST_CALLS; i++) {
            boolean fits = i % 27 != 0;
            int answer = fits ? feeds.x.feed(0x20202020, 0x20202020, 0x20202020, 0x20202020, 0x20202020) : feeds.x.value();
            Bench.same("call " + i, answer, fits ? i % 27 * 20 : LineExpander.BAD);
        }
        Bench.same("calls", feeds.x.calls(), Subject.MOST_CALLS);

        Bench asks = new Bench().parameters("p", "q");
        Bench.same("fields", asks.line("$@ ${@}x"), 4);
        while (asks.x.calls() < Subject.MOST_CALLS - 1) {
            Bench.same("call " + asks.x.calls(), asks.x.byteOf(3, 1), (int) 'x');
        }
        Bench.same("the 512th call", asks.x.byteOf(3, 1), (int) 'x');
        Bench.same("calls", asks.x.calls(), Subject.MOST_CALLS);
    }

    /** Behind 512 calls another object goes on, in the same state. */
    private static void asksNoMore() {
        Bench b = new Bench().parameters("p", "q r").set("v", "abc").tree("/d/", "/d/f");
        b.type("d").x.mark(1);
        b.errs("${n?no}", 2).gives("$v *", "[abc][d]").type("xyz");
        String face = b.face();
        boolean within = true;
        for (int i = 0; i < 100; i++) {
            Bench.same("the same behind " + i, b.face(), face);
            within &= b.x.calls() <= Subject.MOST_CALLS;
        }
        Bench.same("never more than 512", within, true);
        Bench.same("what was collected", b.x.line(), 1);
        b.gives("$# $v /d/*", "[2][abc][/d/f]").errs("d=1", 6);
    }

    private static void changesNoMore() {
        Subject x = new Subject();
        for (int i = 0; i < Subject.MOST_CALLS; i++) {
            Bench.same("changes left", x.changesLeft(), Subject.MOST_CALLS - i);
            Bench.same("strict " + i, x.strict(i % 2 == 0), i % 2);
        }
        boolean refused = false;
        try {
            x.count(0);
        } catch (IllegalStateException e) {
            refused = true;
        }
        Bench.same("the 513th call is not made", refused, true);
    }

    private static void hasTheFace() throws NoSuchMethodException {
        for (Method method : LineExpander.class.getDeclaredMethods()) {
            if (Modifier.isPublic(method.getModifiers())) {
                Bench.same("the subject's " + method.getName(), Subject.class.getDeclaredMethod(method.getName(), method.getParameterTypes()).getReturnType(), int.class);
            }
        }
    }

    /** So no test can ask an object that is not counted. */
    private static void makesAllObjects() throws IOException {
        List<Path> files;
        try (Stream<Path> all = Files.list(Path.of("src/test/java"))) {
            files = all.sorted().collect(Collectors.toList());
        }
        String make = "new " + "LineExpander";
        for (Path file : files) {
            String text = Files.readString(file);
            boolean makes = text.contains(make) || text.contains("LineExpander:" + ":new") || text.contains("newInst" + "ance");
            Bench.same(file + " makes objects", makes, file.endsWith("Subject.java"));
        }
    }
}
