/** Promise 4, PATHS. */
public final class PathsTest {
    public static void main(String[] args) {
        names();
        quotedOnes();
        directories();
        order();
        dots();
        currentOne();
        waysToNowhere();
        oneWayAmongMany();
        Bench.close();
    }

    private static Bench small() {
        return new Bench().tree("/d/", "/d/ab", "/d/abc", "/d/.x", "/d/.y/", "/d/.y/ab", "/e/", "/f");
    }

    private static void names() {
        Bench b = small();
        b.gives("*", "[d][e][f]").gives("/*", "[/d][/e][/f]").gives("/d/*", "[/d/ab][/d/abc]").gives("d/a?", "[d/ab]");
        b.gives("d/[!b]* d/*c d/a*b*", "[d/ab][d/abc][d/abc][d/ab][d/abc]").gives("?", "[d][e][f]").gives("[e-f]", "[e][f]");
        b.gives("x* /x* d/x* x/* f/* [xyz]", "[x*][/x*][d/x*][x/*][f/*][[xyz]]").gives("a='*' b=*", "").gives("$a \"$a\" $b", "[d][e][f][*][d][e][f]");
        b.gives("${n-*} ${n-'*'}", "[d][e][f][*]").gives("IFS=, a='*,d/*' $a", "[d][e][f][d/ab][d/abc]");
        b.parameters("*", "?").gives("$@ \"$@\"", "[d][e][f][d][e][f][*][?]").gives("x=* y=$x", "").has("x", "*").has("y", "*");
    }

    private static void quotedOnes() {
        Bench b = small().tree("/*", "/[a", "/[b]/", "/[b]/x");
        b.gives("\"*\" \\* '*'", "[*][*][*]").gives("\\** '['*", "[*][[a][[b]]").gives("d\"/\"* 'd'/*", "[d/ab][d/abc][d/ab][d/abc]").gives("d\\/*c", "[d/abc]");
        b.gives("[a [b]/x [b]* \\[b]/* [[]* [b/*]", "[[a][[b]/x][[b]*][[b]/x][[a][[b]][[b/*]]");
        b.gives("[d/a]* [d/*", "[[d/a]*][[d/*]").gives("[\"d\"-e] [\\!d]", "[d][e][d]");
    }

    private static void directories() {
        Bench b = small();
        b.gives("*/", "[d/][e/]").gives("*//", "[d//][e//]").gives("//*", "[//d][//e][//f]").gives("d//*", "[d//ab][d//abc]");
        b.gives("*/ab */*", "[d/ab][d/ab][d/abc]").gives("*/. */..", "[d/.][e/.][d/..][e/..]").gives("f/. f/* f*/", "[f/.][f/*][f*/]");
        b.gives("d/./* d/../e* ../* ./*", "[d/./ab][d/./abc][d/../e][../d][../e][../f][./d][./e][./f]").gives("/../../d/*c */../f", "[/../../d/abc][d/../f][e/../f]");
        b.gives("none/../* f/../*", "[none/../*][f/../*]").gives("/*/*/ /*/*/*", "[/*/*/][/*/*/*]").gives("d/a*/ d/*/..", "[d/a*/][d/*/..]");
        b.gives("e/*", "[e/*]");
    }

    private static void order() {
        Bench b = new Bench().tree("/b/", "/a.b/", "/a/", "/a/x", "/a.b/x", "/b/x", "/A", "/a b", "/~", "/10", "/9", "/aa");
        b.gives("*", "[10][9][A][a][a b][a.b][aa][b][~]").gives("*/x", "[a.b/x][a/x][b/x]").gives("z * y", "[z][10][9][A][a][a b][a.b][aa][b][~][y]");
    }

    private static void dots() {
        Bench b = small();
        b.gives("d/.*", "[d/.x][d/.y]").gives("d/?x d/[.]x d/*x d/.?", "[d/?x][d/[.]x][d/*x][d/.x][d/.y]").gives("d/.*/a* d/*/ab", "[d/.y/ab][d/*/ab]");
        b.gives("d/'.'* d/\\.[xy]", "[d/.x][d/.y][d/.x][d/.y]").gives(".* ..* /.*", "[.*][..*][/.*]").gives("d/.[!x]", "[d/.y]");
    }

    private static void currentOne() {
        Bench b = small();
        b.type("/d").x.go();
        b.gives("*", "[ab][abc]").gives("../e* ./a* ? a*c /e*", "[../e][./ab][./abc][?][abc][/e]").gives("../../d/*c ../*/*c", "[../../d/abc][../d/abc]").gives(".*", "[.x][.y]");
        b.type("/d/.y").x.go();
        b.gives("* ../* ../../f* .*", "[ab][../ab][../abc][../../f][.*]");
        b.type("/").x.go();
        b.gives("d/*c", "[d/abc]");
        b.type("/d/abc").x.drop();
        b.gives("d/*", "[d/ab]");
    }

    /** So many ways that they can't be gone one by one: it must end all the same. */
    private static void waysToNowhere() {
        Bench b = new Bench();
        for (int i = 0; i < 79; i++) {
            b.type("/d" + i).x.make(0);
        }
        Bench.same("the tree", b.x.count(3), 80);
        b.gives(Bench.times("*/../", 98) + "x*", "[" + Bench.times("*/../", 98) + "x*]");
        b.errs(Bench.times("*/../", 98) + "d*", 5).errs("*", 5).errs("*/../d7", 5).gives("d1?", "[d10][d11][d12][d13][d14][d15][d16][d17][d18][d19]");
        b.gives(Bench.times("d1/../", 45) + "d?7", sevens("[" + Bench.times("d1/../", 45) + "d", 7)).errs(Bench.times("d1/../", 81) + "d?7", 5);
    }

    /** Of far more ways than can be gone all but the last one lead nowhere: it must be found all the same. */
    private static void oneWayAmongMany() {
        Bench b = new Bench();
        for (String directory : "a b c d e f g".split(" ")) {
            b.tree("/" + directory + "/");
            for (String name : Bench.names("n", 8)) {
                b.tree("/" + directory + "/" + name + "/");
            }
        }
        b.tree("/z/", "/z/n/", "/z/f");
        b.gives("*/" + Bench.times("*/../", 12) + "f", "[z/" + Bench.times("n/../", 12) + "f]");
        b.gives("*/" + Bench.times("*/../", 12) + "[!n]", "[z/" + Bench.times("n/../", 12) + "f]");
    }

    private static String sevens(String before, int many) {
        StringBuilder all = new StringBuilder();
        for (int i = 1; i <= many; i++) {
            all.append(before).append(i).append("7]");
        }
        return all.toString();
    }
}
