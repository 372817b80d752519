/** Promise 4, PARTING, with promises 6 (field) and 7 (byteOf). */
public final class PartingTest {
    public static void main(String[] args) {
        unsetIfs();
        givenIfs();
        breaks();
        quotes();
        looseAlone();
        ifsOfTheMoment();
        fieldsAtHand();
        Bench.close();
    }

    private static void unsetIfs() {
        Bench b = new Bench().gives("a='  x \t\n y  ' s=' ' n=", "");
        b.gives("$a", "[x][y]").gives("p${a}q", "[p][x][y][q]").gives("\"$a\"", "[  x \t\n y  ]").gives("$s $n $s$n$s", "");
        b.gives("x$s x${s}y $s.", "[x][x][y][.]").gives("x${n}y", "[xy]");
    }

    private static void givenIfs() {
        Bench b = new Bench().gives("IFS=' ,' a='x , y,,z ,' l=' ,a' w=' , , '", "");
        b.gives("$a", "[x][y][][z]").gives("p${a}q", "[px][y][][z][q]").gives("$l", "[][a]").gives("$w", "[][]").gives("${w}.", "[][][.]");
        b.gives("IFS=, c=,a,,b, d=, e=' x , y '", "").gives("$c", "[][a][][b]").gives("$d", "[]").gives("$d$d", "[][]").gives("x$d$d", "[x][]");
        b.gives("x${d}y", "[x][y]").gives("$e", "[ x ][ y ]").gives("$d''", "[][]").gives("''$d", "[]");
        b.gives("IFS=:x' ' a='1:2x3 4'", "").gives("$a", "[1][2][3][4]");
        b.gives("IFS= a=' x  y '", "").gives("$a", "[ x  y ]").gives("IFS='\t' a='\t1\t\t2 3\t'", "").gives("$a", "[1][2 3]");
        b.gives("IFS='~' a='1~2'", "").gives("$a", "[1][2]").gives("IFS=?@ a='1?2@3A4>5'", "").gives("$a", "[1][2][3A4>5]");
    }

    private static void breaks() {
        Bench b = new Bench().parameters("a,", "b").gives("IFS=' ,'", "");
        b.gives("$@", "[a][b]").parameters("a", ",b").gives("$@", "[a][][b]").parameters("a ", " b").gives("$@", "[a][b]");
        b.parameters("a , ", " b").gives("$@", "[a][b]").parameters("a", " ,b").gives("$@", "[a][][b]").parameters(",", ",").gives("$@", "[][]");
        b.parameters("", "", "").gives("$@", "").gives("x$@y", "[x][y]").gives("\"$@\"", "[][][]").gives("'x'\"$@\"", "[x][][]");
        b.parameters(" ", "x").gives("$@", "[x]").gives("y$@", "[y][x]").gives("\"$@\"", "[ ][x]");
    }

    private static void quotes() {
        Bench b = new Bench().gives("a='x ' b=' y' c=' '", "");
        b.gives("$a''$b", "[x][][y]").gives("$a$b", "[x][y]").gives("\"$a\"$b", "[x ][y]").gives("''$c''", "[][]").gives("$c''$c", "[]");
        b.gives("x''$c", "[x]").gives("\"\"x", "[x]");
    }

    private static void looseAlone() {
        Bench b = new Bench().gives("IFS=ab x=xay", "");
        b.gives("cadbe", "[cadbe]").gives("$x \"$x\" ${none-1a2'a'3} \\a", "[x][y][xay][1][2a3][a]").gives("${#x}a$((1))", "[3a1]");
        b.type("u=1a2").x.user();
        b.gives("~u", "[1a2]");
    }

    private static void ifsOfTheMoment() {
        Bench b = new Bench().gives("a='x,y z'", "");
        b.gives("$a${IFS=,}", "[x][y z]").gives("$a", "[x][y z]").gives("IFS=\" \" $a", "[x,y][z]");
    }

    private static void fieldsAtHand() {
        Bench b = new Bench();
        Bench.same("line", b.line("ab '' c"), 3);
        int[] sizes = {-1, 2, 0, 1, -1};
        for (int i = -1; i < 4; i++) {
            Bench.same("field(" + i + ")", b.x.field(i), sizes[i + 1]);
        }
        Bench.same("byteOf(0, 0)", b.x.byteOf(0, 0), 97);
        Bench.same("byteOf(0, 1)", b.x.byteOf(0, 1), 98);
        Bench.same("byteOf(2, 0)", b.x.byteOf(2, 0), 99);
        int[][] none = {{0, -1}, {0, 2}, {1, 0}, {2, 1}, {3, 0}, {-1, 0}, {Integer.MAX_VALUE, 0}, {0, Integer.MAX_VALUE}, {0, Integer.MIN_VALUE}, {Integer.MIN_VALUE, 0}};
        for (int[] at : none) {
            Bench.same("byteOf(" + at[0] + ", " + at[1] + ")", b.x.byteOf(at[0], at[1]), -1);
        }
        b.faults("'", 1, 0);
        Bench.same("behind a fault", b.x.field(0), -1);
        b.gives("x y", "[x][y]").gives("a=1", "");
        Bench.same("behind a setting", b.x.field(0), -1);
    }
}
