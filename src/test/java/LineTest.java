/** Promises 7 to 12, 18 to 20, 32, 33: what a line says, by which values, and from what it comes. */
public final class LineTest {
    private static final String CLAIM = "or a b;or - a b;sum 2 a 4 b - 6 c least 2;or b a;";
    private static final String PROOF = "res 0 1 a;weak 4 - d;low c;top c;plane 0;add 2 2;mul 2 1;div 2 2;clause 2 b a;add 6 7;";

    public static void main(String[] args) {
        lines();
        lits();
        planes();
        cuts();
        values();
        slacks();
        users();
        sames();
        giving();
        axiomsNeeded();
        wrongLines();
        Check.finish("LineTest");
    }

    private static PlaneProof made() {
        return Check.told(CLAIM, PROOF);
    }

    private static void lines() {
        PlaneProof x = made();
        int[][] due = {
            {0, 0, -1, -1, -1, 0}, {0, 0, -1, -1, -1, 0}, {0, 1, -1, -1, -1, 0}, {0, 0, -1, -1, -1, 0},
            {1, 0, 0, 1, 0, 0}, {2, 0, 4, -1, -1, 0}, {3, 1, -1, -1, -1, 0}, {4, 1, -1, -1, -1, 0},
            {5, 1, 0, -1, -1, 0}, {6, 1, 2, 2, -1, 0}, {7, 1, 2, -1, -1, 0}, {8, 1, 2, -1, -1, 0},
            {9, 0, 2, -1, -1, 0}, {6, 1, 6, 7, -1, 0}};
        for (int line = 0; line < due.length; line++) {
            for (int what = 0; what < 6; what++) {
                Check.same("7: line " + line + " what " + what, due[line][what], x.line(line, what));
            }
        }
        PlaneProof y = Check.told("or f;or - f;sum a least 1;sum - a least 0;", "res 0 1 f;add 2 3;plane 4;");
        Check.same("7: the V of res", 5, y.line(4, 4));
        Check.same("7: a clause without lits is nought", 1, y.line(4, 5));
        Check.same("7: a plane with bound 1 is", 1, y.line(5, 5));
        Check.same("7: the plane of it is", 1, y.line(6, 5));
        Check.same("7: an axiom is not", 0, y.line(2, 5));
        for (int what : new int[] {-1, 6, 7, Integer.MAX_VALUE, Integer.MIN_VALUE}) {
            Check.fails("7: what " + what, java.util.NoSuchElementException.class, () -> x.line(0, what));
            Check.fails("7: the line comes first", IndexOutOfBoundsException.class, () -> x.line(14, what));
        }
    }

    private static void lits() {
        PlaneProof x = made();
        Check.same("8: V", 3, x.lits(0, false));
        Check.same("8: - V", 0, x.lits(0, true));
        Check.same("8: V", 2, x.lits(5, false));
        Check.same("8: - V", 8, x.lits(5, true));
        Check.fails("8: a plane", java.util.NoSuchElementException.class, () -> x.lits(2, true));
        Check.fails("8: a plane", java.util.NoSuchElementException.class, () -> x.lits(8, false));
    }

    private static void planes() {
        PlaneProof x = made();
        Check.same("9: an axiom", "2 4 -6 0 0 0 least 2", Check.planeOf(x, 2));
        Check.same("9: add", "4 8 -12 0 0 0 least 4", Check.planeOf(x, 9));
        for (int variable : new int[] {-2, 6, Integer.MIN_VALUE, Integer.MAX_VALUE}) {
            Check.fails("9: variable " + variable, IndexOutOfBoundsException.class, () -> x.plane(2, variable));
            Check.fails("9: of a clause too", IndexOutOfBoundsException.class, () -> x.plane(0, variable));
        }
        Check.fails("9: a clause", java.util.NoSuchElementException.class, () -> x.plane(0, 0));
        Check.fails("9: a clause's bound", java.util.NoSuchElementException.class, () -> x.plane(0, -1));
    }

    private static void cuts() {
        PlaneProof x = made();
        Check.same("10: cut", 2, x.cut(2));
        Check.same("10: twice that", 4, x.cut(9));
        Check.same("10: halved", 1, x.cut(11));
        Check.same("10: one", 1, x.cut(7));
        Check.same("10: all are 0", 0, x.cut(13));
        Check.fails("10: a clause", java.util.NoSuchElementException.class, () -> x.cut(0));
        PlaneProof y = Check.told("sum - 12 a 18 b 30 f least 1;sum 7 c least 0;sum - 9 d least 0;sum 4 a 9 b least 0;", "");
        Check.same("10: of several", 6, y.cut(0));
        Check.same("10: of one", 7, y.cut(1));
        Check.same("10: of one below 0", 9, y.cut(2));
        Check.same("10: none in common", 1, y.cut(3));
    }

    private static void values() {
        PlaneProof x = made();
        Check.no("11: a or b", x.holds(0, 60));
        Check.yes("11: a or b", x.holds(0, 61));
        Check.yes("11: - a or b", x.holds(1, 0));
        Check.no("11: - a or b", x.holds(1, 1));
        Check.yes("11: 2 a is 2", x.holds(2, 1));
        Check.no("11: 2 a + 4 b - 6 c is 0", x.holds(2, 7));
        Check.no("11: 0", x.holds(2, 0));
        Check.yes("11: without coefficients, bound -1", x.holds(13, 63));
        for (int wrong : new int[] {-1, 64, Integer.MIN_VALUE, Integer.MAX_VALUE}) {
            Check.fails("11: values " + wrong, IllegalArgumentException.class, () -> x.holds(0, wrong));
            Check.fails("11: the line comes first", IndexOutOfBoundsException.class, () -> x.holds(-1, wrong));
            Check.fails("32: values " + wrong, IllegalArgumentException.class, () -> x.slack(0, wrong));
            Check.fails("32: the line comes first", IndexOutOfBoundsException.class, () -> x.slack(14, wrong));
        }
        Check.same("12: a or b", 48, x.often(0));
        Check.same("12: b", 32, x.often(4));
        Check.same("12: the sum", 24, x.often(2));
        Check.same("12: low", 64, x.often(6));
        Check.same("12: one a and none", 0, Check.told("or a;or - a;", "res 0 1 a;").often(2));
    }

    private static void slacks() {
        PlaneProof x = made();
        Check.same("32: none of a, b", -1, x.slack(0, 0));
        Check.same("32: one", 0, x.slack(0, 2));
        Check.same("32: both", 1, x.slack(0, 3));
        Check.same("32: - a or b", 0, x.slack(1, 0));
        Check.same("32: - a or b", -1, x.slack(1, 1));
        Check.same("32: - a or b", 1, x.slack(1, 2));
        Check.same("32: a sum", 4, x.slack(2, 3));
        Check.same("32: a sum", -8, x.slack(2, 4));
        Check.same("32: top", 1, x.slack(7, 0));
        Check.same("32: top", 0, x.slack(7, 4));
    }

    private static void users() {
        PlaneProof x = made();
        int[] due = {2, 1, 4, 0, 1, 0, 1, 1, 0, 0, 0, 0, 0, 0};
        for (int line = 0; line < due.length; line++) {
            Check.same("18: line " + line, due[line], x.uses(line));
        }
    }

    private static void sames() {
        PlaneProof x = made();
        int[] due = {0, 1, 2, 0, 4, 5, 6, 7, 8, 9, 2, 11, 0, 13};
        for (int line = 0; line < due.length; line++) {
            Check.same("19: line " + line, due[line], x.same(line));
        }
        PlaneProof y = Check.told("or a;sum a least 1;sum a least 2;or - a;sum 2 a least 1;", "plane 0;clause 1 a;");
        Check.same("19: a plane is no clause", 1, y.same(1));
        Check.same("19: another bound", 2, y.same(2));
        Check.same("19: another sign", 3, y.same(3));
        Check.same("19: another coefficient", 4, y.same(4));
        Check.same("19: the plane of a clause", 1, y.same(5));
        Check.same("19: the clause of a plane", 0, y.same(6));
    }

    private static void giving() {
        PlaneProof x = made();
        Check.yes("20: b gives a or b", x.gives(4, 0));
        Check.no("20: a or b does not give b", x.gives(0, 4));
        Check.yes("20: itself", x.gives(0, 0));
        Check.yes("20: a clause its plane", x.gives(0, 8));
        Check.yes("20: a plane its clause", x.gives(8, 0));
        Check.yes("20: all give what always holds", x.gives(1, 6));
        Check.no("20: what always holds gives little", x.gives(6, 1));
        PlaneProof y = Check.told("or a;or - a;", "res 0 1 a;");
        Check.yes("20: nought gives all", y.gives(2, 0));
        Check.no("20: none gives nought", y.gives(0, 2));
    }

    private static void axiomsNeeded() {
        PlaneProof x = made();
        int[] due = {1, 2, 4, 8, 3, 3, 0, 0, 1, 4, 4, 4, 4, 0};
        for (int line = 0; line < due.length; line++) {
            Check.same("33: line " + line, due[line], x.rests(line));
        }
        PlaneProof y = Check.told("or a;".repeat(16), "weak 15 b;");
        Check.same("33: the last axiom", 32768, y.rests(16));
    }

    private static void wrongLines() {
        PlaneProof x = made();
        for (int line : new int[] {-1, 14, 56, 64, Integer.MIN_VALUE, Integer.MAX_VALUE}) {
            Class<IndexOutOfBoundsException> due = IndexOutOfBoundsException.class;
            Check.fails("7: " + line, due, () -> x.line(line, 0));
            Check.fails("8: " + line, due, () -> x.lits(line, false));
            Check.fails("9: " + line, due, () -> x.plane(line, 0));
            Check.fails("10: " + line, due, () -> x.cut(line));
            Check.fails("11: " + line, due, () -> x.holds(line, 0));
            Check.fails("12: " + line, due, () -> x.often(line));
            Check.fails("18: " + line, due, () -> x.uses(line));
            Check.fails("19: " + line, due, () -> x.same(line));
            Check.fails("20: " + line, due, () -> x.gives(line, 0));
            Check.fails("20: other " + line, due, () -> x.gives(0, line));
            Check.fails("32: " + line, due, () -> x.slack(line, 0));
            Check.fails("33: " + line, due, () -> x.rests(line));
        }
    }
}
