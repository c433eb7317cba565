import java.util.NoSuchElementException;

/** The boundary cases of promises 7 to 20, 32 and 33: what is asked of a line. */
public final class AnswerBoundsTest {
    private static final int[] FAR = {Integer.MIN_VALUE, -2, Integer.MAX_VALUE};

    public static void main(String[] args) {
        line();
        lits();
        plane();
        cut();
        holds();
        often();
        refutes();
        measure();
        tree();
        needs();
        uses();
        same();
        gives();
        slack();
        rests();
        Check.finish("AnswerBoundsTest");
    }

    private static void index(String what, Check.Call call) {
        Check.fails(what, IndexOutOfBoundsException.class, call);
    }

    private static void element(String what, Check.Call call) {
        Check.fails(what, NoSuchElementException.class, call);
    }

    private static void line() {
        Check.says("Of a LINE what 0 how it came (0 AXIOM, 1 res, 2 weak, 3 low, 4 top, 5 plane, 6 add, 7 mul, 8 div, 9 clause), "
            + "1 0 a CLAUSE, 1 a PLANE, 2, 3 the LINES it comes FROM (NONE without), 4 the V of a res (NONE), "
            + "5 1 if it is NOUGHT, else 0. NoSuchElementException: another what.");
        PlaneProof x = Check.told("or f;or - f;sum a least 2;",
            "res 0 1 f;weak 3 f;low f;top f;plane 3;add 5 6;mul 2 3;div 7 2;clause 2;");
        int[][] due = {{0, 0, -1, -1, -1, 0}, {0, 0, -1, -1, -1, 0}, {0, 1, -1, -1, -1, 0}, {1, 0, 0, 1, 5, 1},
            {2, 0, 3, -1, -1, 0}, {3, 1, -1, -1, -1, 0}, {4, 1, -1, -1, -1, 0}, {5, 1, 3, -1, -1, 1}, {6, 1, 5, 6, -1, 0},
            {7, 1, 2, -1, -1, 0}, {8, 1, 7, -1, -1, 1}, {9, 0, 2, -1, -1, 1}};
        for (int line = 0; line < due.length; line++) {
            for (int what = 0; what < 6; what++) {
                Check.same("line " + line + " what " + what, due[line][what], x.line(line, what));
            }
        }
        Check.same("the V of a res by a", 0, Check.told("or a;or - a;", "res 0 1 a;").line(2, 4));
        element("what -1", () -> x.line(0, -1));
        element("what 6", () -> x.line(0, 6));
        element("what 6 of the last line", () -> x.line(11, 6));
        index("line -1", () -> x.line(-1, 0));
        index("line 12", () -> x.line(12, 0));
    }

    private static void lits() {
        Check.says("Of a CLAUSE VARIABLES that are in it as V (false), as - V (true). NoSuchElementException: the LINE is a PLANE.");
        PlaneProof x = Check.told("or a b c d e f;or - a - b - c - d - e - f;or a - f;sum a least 0;or a;or - a;", "res 4 5 a;plane 0;");
        int[][] due = {{63, 0}, {0, 63}, {1, 32}};
        for (int line = 0; line < due.length; line++) {
            Check.same("V of " + line, due[line][0], x.lits(line, false));
            Check.same("- V of " + line, due[line][1], x.lits(line, true));
        }
        Check.same("no V", 0, x.lits(6, false));
        Check.same("no - V", 0, x.lits(6, true));
        element("a sum", () -> x.lits(3, false));
        element("the plane of a clause", () -> x.lits(7, true));
        index("no line", () -> x.lits(8, true));
    }

    private static void plane() {
        Check.says("COEFFICIENT of a VARIABLE (NONE: the BOUND) of a PLANE. NoSuchElementException: the LINE is a CLAUSE.");
        PlaneProof x = Check.told("sum - 99 a 99 f least - 99;or a;", "plane 1;");
        Check.same("of a", -99, x.plane(0, 0));
        Check.same("of f", 99, x.plane(0, 5));
        Check.same("of one that does not stand there", 0, x.plane(0, 3));
        Check.same("the bound", -99, x.plane(0, PlaneProof.NONE));
        Check.same("the bound of a clause's plane", 1, x.plane(2, -1));
        element("a clause", () -> x.plane(1, 0));
        element("a clause's bound", () -> x.plane(1, -1));
        for (int v : new int[] {-2, 6, Integer.MIN_VALUE, Integer.MAX_VALUE}) {
            index("variable " + v, () -> x.plane(0, v));
        }
        index("no line", () -> x.plane(3, 0));
    }

    private static void cut() {
        Check.says("CUT. NoSuchElementException: the LINE is a CLAUSE.");
        PlaneProof x = Check.told("sum 6 a - 9 f least 1;or a;", "low a;top a;add 2 3;plane 1;");
        Check.same("3", 3, x.cut(0));
        Check.same("1", 1, x.cut(2));
        Check.same("1 of top", 1, x.cut(3));
        Check.same("0", 0, x.cut(4));
        Check.same("of a clause's plane", 1, x.cut(5));
        element("a clause", () -> x.cut(1));
        index("no line", () -> x.cut(6));
    }

    private static void holds() {
        Check.says("Whether a LINE holds by VALUES. IllegalArgumentException: they are none.");
        PlaneProof x = Check.told("or a;or - a;sum a least 0;sum a least 1;", "res 0 1 a;");
        Check.no("a by 0", x.holds(0, 0));
        Check.yes("a by 63", x.holds(0, 63));
        Check.yes("- a by 0", x.holds(1, 0));
        Check.no("- a by 63", x.holds(1, 63));
        Check.yes("0 is 0 at least", x.holds(2, 0));
        Check.no("0 is not 1 at least", x.holds(3, 62));
        for (int values : new int[] {0, 1, 31, 32, 62, 63}) {
            Check.no("a clause without lits by " + values, x.holds(4, values));
        }
        Check.fails("-1", IllegalArgumentException.class, () -> x.holds(0, -1));
        Check.fails("64", IllegalArgumentException.class, () -> x.holds(0, 64));
        index("no line", () -> x.holds(5, 0));
    }

    private static void often() {
        Check.says("By how many VALUES a LINE holds.");
        PlaneProof x = Check.told("or a;or - a;or a b c d e f;sum a b c d e f least 6;sum a b c d e f least 0;sum a least 2;",
            "res 0 1 a;low f;");
        int[] due = {32, 32, 63, 1, 64, 0, 0, 64};
        for (int line = 0; line < due.length; line++) {
            Check.same("line " + line, due[line], x.often(line));
        }
        index("no line", () -> x.often(8));
    }

    private static void refutes() {
        Check.says("The first LINE that is NOUGHT; NONE: THE PROOF does not REFUTE.");
        Check.same("a new object", -1, new PlaneProof().refutes());
        PlaneProof x = Check.told("or a;or - a;", "");
        Check.same("an empty proof", -1, x.refutes());
        Check.proof(x, "res 0 1 a;");
        Check.same("its first line", 2, x.refutes());
        Check.proof(x, "low a;top a;add 2 3;");
        Check.same("a plane of all 0, bound -1", -1, x.refutes());
    }

    private static void measure() {
        Check.says("Of a LINE what 0 LENGTH, 1 WIDTH, 2 DEPTH, 3 KEEPS, 4 1 if it is REGULAR, else 0. "
            + "NoSuchElementException: another what.");
        PlaneProof x = Check.told("or a b c;or - a;sum a least 0;", "res 0 1 a;weak 3 a;res 4 1 a;low f;");
        int[][] due = {{0, 3, 0, 0, 1}, {0, 1, 0, 0, 1}, {0, 0, 0, 0, 1}, {1, 3, 1, 1, 1}, {2, 3, 2, 2, 1}, {3, 3, 3, 2, 0},
            {1, 0, 0, 1, 1}};
        for (int line = 0; line < due.length; line++) {
            for (int what = 0; what < 5; what++) {
                Check.same("line " + line + " what " + what, due[line][what], x.measure(line, what));
            }
        }
        element("what -1", () -> x.measure(0, -1));
        element("what 5", () -> x.measure(0, 5));
        index("line 7", () -> x.measure(7, 0));
        index("line -1", () -> x.measure(-1, 4));
    }

    private static void tree() {
        Check.says("TREE.");
        PlaneProof x = Check.told("or a;", "weak 0 b;low a;add 2 2;");
        long[] due = {1, 2, 1, 3};
        for (int line = 0; line < due.length; line++) {
            Check.same("line " + line, due[line], x.tree(line));
        }
        index("line 4", () -> x.tree(4));
        index("line -1", () -> x.tree(-1));
    }

    private static void needs() {
        Check.says("Whether a LINE NEEDS another one (or is it).");
        PlaneProof x = Check.told("or a;or b;", "weak 0 c;weak 2 d;");
        Check.yes("an axiom is it", x.needs(0, 0));
        Check.yes("the last is it", x.needs(3, 3));
        Check.yes("one between", x.needs(3, 0));
        Check.no("not that", x.needs(3, 1));
        Check.no("not one behind", x.needs(2, 3));
        for (int far : FAR) {
            index("line " + far, () -> x.needs(far, 0));
            index("other " + far, () -> x.needs(0, far));
        }
        index("line 4", () -> x.needs(4, 0));
        index("other 4", () -> x.needs(0, 4));
        PlaneProof most = Check.told("or a;".repeat(16), "low a;".repeat(39) + "weak 15 b;");
        Check.yes("the greatest numbers", most.needs(55, 15));
        Check.yes("itself", most.needs(55, 55));
        Check.no("not the one ahead", most.needs(55, 54));
    }

    private static void uses() {
        Check.says("How many LINES come FROM a LINE (one that tells it twice is one).");
        PlaneProof x = Check.told("or a;sum a least 0;", "low a;add 2 2;add 2 1;add 1 2;mul 1 1;plane 0;");
        int[] due = {1, 3, 3, 0, 0, 0, 0, 0};
        for (int line = 0; line < due.length; line++) {
            Check.same("line " + line, due[line], x.uses(line));
        }
        index("line 8", () -> x.uses(8));
        Check.same("all forty", 40, Check.told("or a;", "weak 0 b;".repeat(40)).uses(0));
    }

    private static void same() {
        Check.says("The least LINE that says the same (the same CLAUSE, the same PLANE) as one; itself without another.");
        PlaneProof x = Check.told("or a b;or b a;or a - b;sum a b least 1;sum a b least 2;sum a 2 b least 1;",
            "plane 0;plane 1;mul 3 1;clause 3 a b;weak 0 c;");
        int[] due = {0, 0, 2, 3, 4, 5, 3, 3, 3, 0, 10};
        for (int line = 0; line < due.length; line++) {
            Check.same("line " + line, due[line], x.same(line));
        }
        index("line 11", () -> x.same(11));
        index("line -1", () -> x.same(-1));
        PlaneProof nought = Check.told("or a;or - a;sum a least 2;", "res 0 1 a;clause 2;plane 3;plane 4;");
        Check.same("clauses without lits", 3, nought.same(4));
        Check.same("a plane without coefficients is no clause", 5, nought.same(5));
        Check.same("planes without coefficients", 5, nought.same(6));
        Check.same("the last variable counts", 1, Check.claimed("or a f;or a - f;").same(1));
        Check.same("the same values are not the same plane", 1, Check.claimed("sum a least 1;sum 2 a least 1;").same(1));
    }

    private static void gives() {
        Check.says("Whether a LINE says all that another one says: no VALUES by which it holds and the other one does not.");
        PlaneProof x = Check.told("or a;or a b;sum 2 a least 1;sum a least 2;sum a least 0;or - a;sum b c d e f least 5;or - f;", "");
        Check.yes("itself", x.gives(0, 0));
        Check.yes("less", x.gives(0, 1));
        Check.no("more", x.gives(1, 0));
        Check.yes("a plane with the same values", x.gives(0, 2));
        Check.yes("and back", x.gives(2, 0));
        Check.yes("what never holds gives all", x.gives(3, 5));
        Check.no("but is not given", x.gives(5, 3));
        Check.yes("what always holds is given", x.gives(5, 4));
        Check.no("but gives little", x.gives(4, 5));
        Check.no("one of 64 values is enough against it", x.gives(6, 7));
        index("line 8", () -> x.gives(8, 0));
        index("other 8", () -> x.gives(0, 8));
        index("line -1", () -> x.gives(-1, 0));
        index("other -1", () -> x.gives(0, -1));
    }

    private static void slack() {
        Check.says("SLACK. IllegalArgumentException: VALUES are none.");
        PlaneProof x = Check.claimed("sum 99 a 99 b 99 c 99 d 99 e 99 f least - 99;sum - 99 a least 99;");
        Check.same("the most", 693, x.slack(0, 63));
        Check.same("by none", 99, x.slack(0, 0));
        Check.same("the least", -198, x.slack(1, 63));
        Check.fails("-1", IllegalArgumentException.class, () -> x.slack(0, -1));
        Check.fails("64", IllegalArgumentException.class, () -> x.slack(0, 64));
        index("no line", () -> x.slack(2, 0));
        index("line -1", () -> x.slack(-1, 0));
    }

    private static void rests() {
        Check.says("AXIOMS that a LINE NEEDS, as bits.");
        PlaneProof x = Check.told("or a;".repeat(15) + "or - a;", "low a;weak 15 b;res 0 15 a;plane 18;");
        Check.same("the first", 1, x.rests(0));
        Check.same("the last", 32768, x.rests(15));
        Check.same("none", 0, x.rests(16));
        Check.same("the last, through weak", 32768, x.rests(17));
        Check.same("two", 32769, x.rests(18));
        Check.same("two, through a plane", 32769, x.rests(19));
        index("line 20", () -> x.rests(20));
        index("line -1", () -> x.rests(-1));
        Check.same("without a claim", 0, Check.told("", "low a;").rests(0));
    }
}
