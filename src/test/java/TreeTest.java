/** Promises 15 (make), 16 (drop) and 17 (go). */
public final class TreeTest {
    private static final String[] NO_PATHS = {"", "a", "a/b", "//", "/a/", "//a", "/a//b", "/.", "/..", "/d/.", "/d/..", "/d/../x",
        "/12345678901", "/d/12345678901", "/a\1", "/d/\200", " /a"};

    public static void main(String[] args) {
        making();
        dropping();
        going();
        full();
        Bench.close();
    }

    private static void making() {
        Bench b = new Bench();
        Bench.same("a directory", b.type("/d").x.make(0), 2);
        Bench.same("a file", b.type("/f").x.make(1), 3);
        Bench.same("in it", b.type("/d/1234567890").x.make(1), 4);
        Bench.same("odd names", b.type("/d/...").x.make(0), 5);
        Bench.same("odd names", b.type("/d/.../ *\n").x.make(0), 6);
        Bench.same("there is one", b.type("/d").x.make(0), -1);
        Bench.same("there is one", b.type("/d").x.make(1), -1);
        Bench.same("there is one", b.type("/f").x.make(0), -1);
        Bench.same("in a file", b.type("/f/x").x.make(0), -1);
        Bench.same("in nothing", b.type("/x/y").x.make(0), -1);
        Bench.same("the root", b.type("/").x.make(0), -1);
        for (String bad : NO_PATHS) {
            Bench.same("make " + bad, b.type(bad).x.make(0), -1);
            Bench.same("make " + bad, b.type(bad).x.make(1), -1);
        }
        for (int kind : new int[] {-1, 2, Integer.MAX_VALUE}) {
            Bench.same("make(" + kind + ")", b.type("/new").x.make(kind), -1);
        }
        Bench.same("how many", b.x.count(3), 6);
        Bench.same("deep", b.type("/d/.../ *\n/e").x.make(0), 7);
        b.gives("/*/ d/*", "[/d/][d/1234567890]").gives("d/.*/*/*", "[d/.../ *\n/e]");
    }

    private static void dropping() {
        Bench b = new Bench().tree("/d/", "/d/e/", "/d/e/f", "/g/");
        Bench.same("with something in it", b.type("/d").x.drop(), -1);
        Bench.same("with something in it", b.type("/d/e").x.drop(), -1);
        Bench.same("nothing", b.type("/x").x.drop(), -1);
        Bench.same("nothing", b.type("/d/e/f/g").x.drop(), -1);
        Bench.same("the root", b.type("/").x.drop(), -1);
        for (String bad : NO_PATHS) {
            Bench.same("drop " + bad, b.type(bad).x.drop(), -1);
        }
        b.type("/g").x.go();
        Bench.same("the current one", b.type("/g").x.drop(), -1);
        b.type("/d/e").x.go();
        Bench.same("a file", b.type("/d/e/f").x.drop(), 4);
        Bench.same("the current one", b.type("/d/e").x.drop(), -1);
        b.type("/").x.go();
        Bench.same("a directory", b.type("/d/e").x.drop(), 3);
        Bench.same("again", b.type("/d/e").x.drop(), -1);
        Bench.same("as another kind", b.type("/d/e").x.make(1), 4);
        Bench.same("no directory then", b.type("/d/e").x.go(), -1);
        b.gives("d/* *", "[d/e][d][g]");
    }

    private static void going() {
        Bench b = new Bench().tree("/d/", "/d/e/", "/d/e/x", "/f");
        Bench.same("go", b.type("/d/e").x.go(), 0);
        b.gives("*", "[x]");
        for (String bad : NO_PATHS) {
            Bench.same("go " + bad, b.type(bad).x.go(), -1);
        }
        Bench.same("a file", b.type("/f").x.go(), -1);
        Bench.same("nothing", b.type("/d/x").x.go(), -1);
        b.gives("*", "[x]");
        Bench.same("the root", b.type("/").x.go(), 0);
        b.gives("*", "[d][f]");
        Bench.same("from the root", b.type("/d").x.go(), 0);
        Bench.same("from the root", b.type("/e").x.go(), -1);
        Bench.same("names alone", b.type("e").x.go(), -1);
        b.gives("*", "[e]");
    }

    private static void full() {
        Bench b = new Bench();
        String path = "";
        for (int i = 2; i <= 80; i++) {
            path = i % 40 == 0 ? "" : path;
            path = path + "/n" + i;
            Bench.same("make", b.type(path).x.make(0), i);
        }
        Bench.same("81", b.type("/zz").x.make(0), -1);
        Bench.same("drop", b.type(path).x.drop(), 79);
        Bench.same("go", b.type(path).x.go(), -1);
        Bench.same("make", b.type("/zz").x.make(1), 80);
        Bench.same("81", b.type("/zzz").x.make(1), -1);
        Bench.same("how many", b.x.count(3), 80);
    }
}
