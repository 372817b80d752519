/** Promises 1 (a new object), 2 (feed), 3 (end) and 18 (count). */
public final class CollectingTest {
    public static void main(String[] args) {
        newObject();
        feeding();
        ending();
        goneThen();
        counting();
        Bench.close();
    }

    private static void newObject() {
        Subject x = new Subject();
        Bench.same("BAD", LineExpander.BAD, -1);
        Bench.same("NONE", LineExpander.NONE, -2);
        int[] due = {0, 0, 0, 1, 0, 0, 0};
        for (int what = 0; what < due.length; what++) {
            Bench.same("new count(" + what + ")", x.count(what), due[what]);
        }
        Bench.same("new place()", x.place(), -2);
        Bench.same("new field(0)", x.field(0), -1);
        Bench.same("new byteOf(0, 0)", x.byteOf(0, 0), -1);
        Bench.same("new message(-1)", x.message(-1), -1);
        Bench.same("new message(0)", x.message(0), -1);
        Bench.same("new strict(false)", x.strict(false), 0);
        Bench.same("new line()", x.line(), 0);
        Bench.same("new value()", x.value(), -1);
        Bench.same("new end(0)", x.end(0), -1);
        new Bench().gives("$x$1$@", "").gives("\"$*\"$#", "[0]").gives("~ ~u", "[~][~u]").gives("/* *", "[/*][*]");
    }

    private static void feeding() {
        Bench b = new Bench();
        Bench.same("feed", b.x.feed(0x61626364, 0x65666768, 0x696a6b6c, 0x6d6e6f70, 0x71727374), 20);
        Bench.same("line", b.x.line(), 1);
        Bench.same("the highest first", b.fields(), "[abcdefghijklmnopqrst]");
        for (int i = 1; i <= 26; i++) {
            Bench.same("feed " + i, b.x.feed(0x20202020, 0x20202020, 0x20202020, 0x20202020, 0x20202020), i * 20);
        }
        Bench.same("feed beyond 520", b.x.feed(0, 0, 0, 0, 0), -1);
        Bench.same("nothing changed", b.x.count(0), 520);
        Bench.same("end(0)", b.x.end(0), 500);
        Bench.same("line of 500 blanks", b.x.line(), 0);
        for (int i = 1; i <= 26; i++) {
            b.x.feed(0, 0, 0, 0, 0);
        }
        b.x.end(1);
        Bench.same("501 and 20", b.x.feed(0, 0, 0, 0, 0), -1);
        Bench.same("501", b.x.count(0), 501);
        Bench.same("a line of 501 bytes", b.x.line(), -1);
        b.x.feed(0x61202020, 0x20202020, 0x20202020, 0x20202020, -1);
        Bench.same("a byte that is none", b.x.line(), -1);
    }

    private static void ending() {
        Bench b = new Bench();
        b.x.feed(0x61626364, 0x65666768, 0x696a6b6c, 0x6d6e6f70, 0x71727374);
        Bench.same("end(-1)", b.x.end(-1), -1);
        Bench.same("end(21)", b.x.end(21), -1);
        Bench.same("end(20)", b.x.end(20), 20);
        Bench.same("end(3)", b.x.end(3), 3);
        Bench.same("end of three", b.x.end(3), -1);
        b.x.feed(0x65666768, 0x65666768, 0x65666768, 0x65666768, 0x65666768);
        Bench.same("end(2) of 23", b.x.end(2), 5);
        Bench.same("line", b.x.line(), 1);
        Bench.same("what stays", b.fields(), "[abcef]");
        b.x.feed(0, 0, 0, 0, 0);
        b.x.feed(0, 0, 0, 0, 0);
        Bench.same("end(19)", b.x.end(19), 39);
        Bench.same("end(19) again", b.x.end(19), 38);
        Bench.same("end(0)", b.x.end(0), 18);
        Bench.same("end(0) again", b.x.end(0), -1);
    }

    /** Every call that takes what was collected takes it for good, whatever it answers. */
    private static void goneThen() {
        Bench b = new Bench();
        for (String text : new String[] {"a=1", "/x", "a", "\1", "=", "'"}) {
            b.type(text).x.line();
            Bench.same("behind line", b.x.count(0), 0);
            b.type(text).x.value();
            Bench.same("behind value", b.x.count(0), 0);
            b.type(text).x.parameter();
            Bench.same("behind parameter", b.x.count(0), 0);
            for (int what = -1; what <= 2; what++) {
                b.type(text).x.mark(what);
                Bench.same("behind mark", b.x.count(0), 0);
                b.type(text).x.make(what);
                Bench.same("behind make", b.x.count(0), 0);
            }
            b.type(text).x.user();
            Bench.same("behind user", b.x.count(0), 0);
            b.type(text).x.go();
            Bench.same("behind go", b.x.count(0), 0);
            b.type(text).x.drop();
            Bench.same("behind drop", b.x.count(0), 0);
        }
    }

    private static void counting() {
        Bench b = new Bench().parameters("a", "b", "c").tree("/a/", "/b");
        b.type("u=/x").x.user();
        b.type("L").x.mark(1);
        b.type("M").x.mark(1);
        b.line("v=1 w=2 x=3 y=4 z=5 1 2 3 4 5 6 7");
        b.type("12345678");
        int[] due = {8, 5, 3, 3, 1, 7, 2};
        for (int what = 0; what < due.length; what++) {
            Bench.same("count(" + what + ")", b.x.count(what), due[what]);
        }
        for (int what : new int[] {-1, 7, 8, Integer.MAX_VALUE, Integer.MIN_VALUE}) {
            Bench.same("count(" + what + ")", b.x.count(what), -1);
        }
    }
}
