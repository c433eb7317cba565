/** Promises 5 and 6: what a proof may say, and its first wrong byte. */
public final class ProofTest {
    /** Lines 0 to 2 are clauses, 3 is a plane. */
    private static final String CLAIM = "or a b;or - a b;or - a - b;sum 2 a 4 b least 3;";

    public static void main(String[] args) {
        rightTexts();
        wrongRes();
        wrongWeak();
        wrongLimitsAndPlanes();
        wrongAddMulDiv();
        wrongClause();
        limits();
        tooMany();
        saying();
        divRoundsUp();
        aWrongOneChangesNothing();
        Check.finish("ProofTest");
    }

    private static void right(int lines, String text) {
        rightFor(CLAIM, lines, text);
    }

    private static void wrong(int fault, String text) {
        wrongFor(CLAIM, fault, text);
    }

    private static void rightFor(String claim, int lines, String text) {
        PlaneProof x = new PlaneProof();
        Check.claim(x, claim);
        Check.tape(x, text);
        Check.same("5: " + text, String.valueOf(lines), Check.outcome(x::proof));
        Check.same("6: " + text, -1, x.fault());
    }

    private static void wrongFor(String claim, int fault, String text) {
        PlaneProof x = new PlaneProof();
        Check.claim(x, claim);
        Check.tape(x, text);
        Check.same("5: " + text, "IllegalArgumentException", Check.outcome(x::proof));
        Check.same("6: " + text, fault, x.fault());
    }

    private static void rightTexts() {
        right(0, "");
        right(0, "\t\n ");
        right(1, "res 0 1 a;");
        right(1, "res0 1a;");
        right(1, " res\t00\n01 a ; ");
        right(1, "weak 0 c d - e f;");
        right(1, "low f;");
        right(1, "top a;");
        right(1, "plane 2;");
        right(1, "add 3 3;");
        right(1, "mul 3 1;");
        right(1, "mul 3 09;");
        right(1, "div 3 2;");
        right(1, "clause 3 b;");
        right(1, "clause 3 a b;");
        right(1, "clause 3 - c b - d;");
        right(2, "res 0 1 a;res 0 1 a;");
        right(3, "res 0 1 a;res 4 2 b;weak 5 b;");
        rightFor("", 2, "low a;add 0 0;");
        rightFor("sum a least 2;", 1, "clause 0;");
    }

    private static void wrongRes() {
        wrong(0, "re");
        wrong(0, "resolve 0 1 a;");
        wrong(0, "or a;");
        wrong(0, "0;");
        wrong(3, "res");
        wrong(4, "res a");
        wrong(4, "res - 0 1 a;");
        wrong(4, "res 3 0 a;");
        wrong(4, "res 4 0 a;");
        wrong(4, "res 99 0 a;");
        wrong(4, "res 000 1 a;");
        wrong(5, "res 0");
        wrong(6, "res 0 a;");
        wrong(6, "res 0 3 a;");
        wrong(6, "res 0 4 a;");
        wrong(6, "res 0 100 a;");
        wrong(7, "res 0 1");
        wrong(7, "res 0 1;");
        wrong(8, "res 0 1 g;");
        wrong(8, "res 0 1 ab;");
        wrong(8, "res 0 1 2;");
        wrong(8, "res 0 1 - a;");
        wrong(8, "res 0 1 c;");
        wrong(8, "res 0 1 b;");
        wrong(8, "res 1 0 a;");
        wrong(8, "res 0 0 a;");
        wrong(8, "res 0 2 a;");
        wrong(9, "res 0 1 a");
        wrong(10, "res 0 1 a b;");
        wrong(14, "res 0 1 a;res 5 1 a;");
        wrong(8, "res 0 2 b;");
        wrongFor("or a;or - b;", 8, "res 0 1 a;");
        wrongFor("or b;or - a;", 8, "res 0 1 a;");
    }

    private static void wrongWeak() {
        wrong(4, "weak");
        wrong(5, "weak 3 c;");
        wrong(5, "weak 4 c;");
        wrong(6, "weak 0;");
        wrong(6, "weak 0");
        wrong(7, "weak 0 a;");
        wrong(9, "weak 0 - a;");
        wrong(9, "weak 0 - b;");
        wrong(9, "weak 0 c c;");
        wrong(11, "weak 0 c - c;");
        wrong(8, "weak 0 -;");
        wrong(7, "weak 0 1;");
        wrong(9, "weak 0 c 1;");
        wrong(8, "weak 0 c");
        wrong(22, "weak 0 c d e f;weak 4 a;");
    }

    private static void wrongLimitsAndPlanes() {
        wrong(3, "low");
        wrong(3, "low;");
        wrong(4, "low g;");
        wrong(4, "low - a;");
        wrong(6, "low a b;");
        wrong(0, "lowa;");
        wrong(4, "top 1;");
        wrong(5, "top a");
        wrong(6, "plane 3;");
        wrong(6, "plane 4;");
        wrong(8, "plane 0 1;");
        wrong(7, "plane 0");
        wrong(5, "plane;");
    }

    private static void wrongAddMulDiv() {
        wrong(4, "add 0 3;");
        wrong(6, "add 3 0;");
        wrong(6, "add 3 4;");
        wrong(6, "add 3 a;");
        wrong(5, "add 3;");
        wrong(8, "add 3 3 3;");
        wrong(4, "mul 0 2;");
        wrong(6, "mul 3 0;");
        wrong(6, "mul 3 10;");
        wrong(6, "mul 3 002;");
        wrong(6, "mul 3 a;");
        wrong(5, "mul 3;");
        wrong(6, "mul 3 - 2;");
        wrong(4, "div 1 2;");
        wrong(6, "div 3 0;");
        wrong(6, "div 3 1;");
        wrong(6, "div 3 10;");
        wrong(6, "div 3 3;");
        wrong(6, "div 3 4;");
        wrong(6, "div 3 1");
        wrong(7, "div 3 2");
    }

    private static void wrongClause() {
        wrong(7, "clause 0 a;");
        wrong(7, "clause 4 a;");
        wrong(0, "clause 3;");
        wrong(0, "clause 3 a;");
        wrong(2, "  clause 3 - b;");
        wrong(6, "low a;clause 4 a;");
        // It is asked only where the ; stands.
        wrong(8, "clause 3");
        wrong(10, "clause 3 a");
        wrong(11, "clause 3 a 1;");
        wrong(11, "clause 3 a a;");
        wrong(13, "clause 3 a - a;");
        wrong(12, "clause 3 a -;");
        wrong(21, "clause 3 a b c d e f a;");
        wrong(9, "clause 3 g;");
    }

    private static void limits() {
        String coefficients = "sum 99 a least 0;sum 9 a least 0;sum - 99 b least 0;sum - 9 b least 0;";
        rightFor(coefficients, 3, "mul 0 9;add 4 0;add 5 1;");
        wrongFor(coefficients, 30, "mul 0 9;add 4 0;add 5 1;add 6 1;");
        wrongFor(coefficients, 14, "mul 0 9;mul 4 2;");
        rightFor(coefficients, 3, "mul 2 9;add 4 2;add 5 3;");
        wrongFor(coefficients, 30, "mul 2 9;add 4 2;add 5 3;add 6 3;");
        String bounds = "sum a least 99;sum b least - 99;sum c least 1;sum c least - 1;";
        String toMost = "mul 0 9;mul 4 9;add 5 4;add 6 4;add 7 0;add 8 0;";
        rightFor(bounds, 6, toMost);
        wrongFor(bounds, 54, toMost + "add 9 2;");
        rightFor(bounds, 7, toMost + "add 9 3;");
        String toLeast = toMost.replace(" 0", " 1");
        rightFor(bounds, 6, toLeast);
        wrongFor(bounds, 54, toLeast + "add 9 3;");
        wrongFor(bounds, 54, toMost + "mul 9 2;");
    }

    private static void tooMany() {
        String forty = "low a;".repeat(40);
        right(40, forty);
        right(40, forty + "\n");
        wrong(240, forty + "low a;");
        wrong(241, forty + " low a;");
        wrong(240, forty + ";");
        String axioms = "or a;".repeat(16);
        rightFor(axioms, 40, "low a;".repeat(39) + "mul 54 1;");
        wrongFor(axioms, 238, "low a;".repeat(39) + "mul 55 1;");
    }

    private static void saying() {
        PlaneProof x = Check.told("or a - b c;or - a - b d;sum 3 a - 6 b least 5;",
            "res 0 1 a;weak 3 - e f;low c;top d;plane 0;add 2 7;mul 2 9;div 2 3;clause 2 a - f;");
        Check.same("res, V", 12, x.lits(3, false));
        Check.same("res, - V", 2, x.lits(3, true));
        Check.same("weak, V", 44, x.lits(4, false));
        Check.same("weak, - V", 18, x.lits(4, true));
        Check.same("low", "0 0 1 0 0 0 least 0", Check.planeOf(x, 5));
        Check.same("top", "0 0 0 -1 0 0 least -1", Check.planeOf(x, 6));
        Check.same("plane", "1 -1 1 0 0 0 least 0", Check.planeOf(x, 7));
        Check.same("add", "4 -7 1 0 0 0 least 5", Check.planeOf(x, 8));
        Check.same("mul", "27 -54 0 0 0 0 least 45", Check.planeOf(x, 9));
        Check.same("div", "1 -2 0 0 0 0 least 2", Check.planeOf(x, 10));
        Check.same("clause, V", 1, x.lits(11, false));
        Check.same("clause, - V", 32, x.lits(11, true));
    }

    private static void divRoundsUp() {
        PlaneProof x = Check.told("sum 4 a least 1;sum 4 a least - 1;sum 4 a least - 5;sum 4 a least 4;sum 4 a least - 4;",
            "div 0 4;div 1 4;div 2 4;div 3 4;div 4 4;div 0 2;div 2 2;");
        int[] due = {1, 0, -1, 1, -1, 1, -2};
        for (int k = 0; k < due.length; k++) {
            Check.same("div " + k, due[k], x.plane(5 + k, -1));
        }
        PlaneProof y = Check.told("sum a least 1;sum - a least 4;", "add 0 1;div 2 9;div 2 2;");
        Check.same("div without coefficients", 1, y.plane(3, -1));
        Check.same("div without coefficients by 2", 3, y.plane(4, -1));
    }

    private static void aWrongOneChangesNothing() {
        PlaneProof x = Check.told(CLAIM, "res 0 1 a;res 4 2 b;");
        Check.tape(x, "low a;low b;low c;low");
        Check.fails("5: wrong", IllegalArgumentException.class, x::proof);
        Check.same("6: its fault", 21, x.fault());
        Check.same("5: the proof before stands", 6, x.count(1));
        Check.same("5: with its lines", 1, x.line(5, 0));
        Check.same("5: in its place", 1, Check.proof(x, "low a;"));
        Check.same("5: the old one is gone", 5, x.count(1));
        Check.same("6: no fault", -1, x.fault());
        Check.same("5: an empty one", 0, x.proof());
        Check.same("5: leaves the axioms", 4, x.count(1));
    }
}
