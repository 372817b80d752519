import java.util.ArrayList;
import java.util.List;
import java.util.TreeMap;
import java.util.Map;
import java.util.TreeSet;
import java.util.Set;

/** PATHS: all short patterns of paths over one tree, from several directories, against the document's words one by one. */
public final class PathWaysTest {
    private static final String[] PARTS = {"", ".", "..", "d", "f", "x", "*", "?", ".*", "[de]", "[!d]*", "*h"};
    /** Each path with whether it is a directory; the root is "". */
    private static final Map<String, Boolean> TREE = new TreeMap<>();

    public static void main(String[] args) {
        TREE.put("", true);
        for (String path : new String[] {"/d/", "/d/d/", "/d/f", "/d/.h", "/d/e/", "/d/e/d", "/e/", "/f", "/.h/", "/.h/d"}) {
            TREE.put(path.endsWith("/") ? path.substring(0, path.length() - 1) : path, path.endsWith("/"));
        }
        for (String current : new String[] {"", "/d", "/d/e", "/.h"}) {
            from(current);
        }
        order();
        Bench.close();
    }

    private static Bench made(String current) {
        Bench b = new Bench();
        for (Map.Entry<String, Boolean> each : TREE.entrySet()) {
            if (!each.getKey().isEmpty()) {
                b.tree(each.getKey() + (each.getValue() ? "/" : ""));
            }
        }
        Bench.same("go " + current, b.type(current.isEmpty() ? "/" : current).x.go(), 0);
        return b;
    }

    private static void from(String current) {
        for (String one : PARTS) {
            check(made(current), current, one);
            for (String two : PARTS) {
                Bench b = made(current);
                check(b, current, one + "/" + two);
                for (String three : PARTS) {
                    check(b, current, one + "/" + two + "/" + three);
                }
            }
        }
    }

    private static void check(Bench b, String current, String pattern) {
        if (!pattern.isEmpty()) {
            b.gives(pattern, due(pattern, current));
        }
    }

    private static String due(String pattern, String current) {
        Set<String> paths = new TreeSet<>();
        if (pattern.matches(".*[*?\\[].*")) {
            walk(List.of(pattern.split("/", -1)), 0, pattern.startsWith("/") ? "" : current, new ArrayList<>(), paths);
        }
        return paths.isEmpty() ? "[" + pattern + "]" : "[" + String.join("][", paths) + "]";
    }

    private static void walk(List<String> parts, int at, String where, List<String> written, Set<String> paths) {
        if (at == parts.size()) {
            paths.add(String.join("/", written));
            return;
        }
        if (!TREE.getOrDefault(where, false)) {
            return;
        }
        String part = parts.get(at);
        if (part.isEmpty() || part.equals(".")) {
            go(parts, at, where, part, written, paths);
        } else if (part.equals("..")) {
            go(parts, at, where.isEmpty() ? "" : where.substring(0, where.lastIndexOf('/')), part, written, paths);
        } else {
            for (String path : TREE.keySet()) {
                int slash = path.lastIndexOf('/');
                String name = path.substring(slash + 1);
                boolean lies = slash >= 0 && path.substring(0, slash).equals(where);
                if (lies && PatternsTest.matches(part, name) && (!name.startsWith(".") || part.startsWith("."))) {
                    go(parts, at, path, name, written, paths);
                }
            }
        }
    }

    private static void go(List<String> parts, int at, String where, String name, List<String> written, Set<String> paths) {
        written.add(name);
        walk(parts, at + 1, where, written, paths);
        written.remove(written.size() - 1);
    }

    /** "take its place in the order of their bytes". */
    private static void order() {
        Bench b = new Bench().tree("/b", "/a", "/~", "/ ", "/\t", "/\n", "/A", "/Z", "/_", "/0", "/10", "/2", "/a a", "/a-a", "/aa", "/a!/", "/a!/x", "/ab/", "/ab/x", "/a0/", "/a0/x");
        b.gives("*", "[\t][\n][ ][0][10][2][A][Z][_][a][a a][a!][a-a][a0][aa][ab][b][~]").gives("a*", "[a][a a][a!][a-a][a0][aa][ab]").gives("*/x", "[a!/x][a0/x][ab/x]").gives("a?/", "[a!/][a0/][ab/]");
        Bench c = new Bench().tree("/a/", "/a/x", "/a.b/", "/a.b/x", "/a0/", "/a0/x");
        c.gives("*/x", "[a.b/x][a/x][a0/x]").gives("*", "[a][a.b][a0]").gives("*//x", "[a.b//x][a//x][a0//x]");
    }
}
