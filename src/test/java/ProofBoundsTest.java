/** The boundary cases of what the document says of THE PROOF and its LINES. */
public final class ProofBoundsTest {
    /** Lines 0 to 2 are clauses, 3 is a plane. */
    private static final String CLAIM = "or a b;or - a b;or - a - b;sum 2 a 4 b least 3;";
    /** One clause of each kind that counts - V, from none to six. */
    private static final String SIGNS = "or a b c d e f;or a b c d e - f;or a b c d - e - f;or a b c - d - e - f;"
        + "or a b - c - d - e - f;or a - b - c - d - e - f;or - a - b - c - d - e - f;";

    public static void main(String[] args) {
        textsOf400Bytes();
        numbers();
        linesAhead();
        res();
        weak();
        lowAndTop();
        planes();
        add();
        mul();
        div();
        divRoundsUp();
        clauses();
        coefficientLimits();
        boundLimits();
        Check.finish("ProofBoundsTest");
    }

    private static void right(int lines, String text) {
        Check.rightProof(CLAIM, lines, text);
    }

    private static void wrong(String marked) {
        Check.wrongProof(CLAIM, marked);
    }

    private static void textsOf400Bytes() {
        Check.says("THE PROOF is a text of at most 400 bytes: { LINE ; } (at most 40).");
        right(0, "");
        right(0, "\n");
        right(0, " ".repeat(400));
        right(1, " ".repeat(394) + "low a;");
        wrong(" ".repeat(395) + "low a^");
        wrong(" ".repeat(394) + "low a^:");
        wrong("^;");
        wrong("low a;^;");
        wrong("low a ^low b;");
        right(39, "low a;".repeat(39));
        right(40, "low a;".repeat(40));
        right(40, "low a;".repeat(40) + " \t\n");
        right(40, "res 0 1 a;".repeat(40));
        wrong("low a;".repeat(40) + "^low a;");
        wrong("low a;".repeat(40) + " ^res");
        wrong("low a;".repeat(40) + "^;");
        Check.rightProof("or a;".repeat(16), 40, "weak 15 b;".repeat(40));
        Check.wrongProof("or a;".repeat(16), "top b;".repeat(40) + "^top b;");
    }

    private static void numbers() {
        Check.says("LINES of THE CLAIM and, behind these, of THE PROOF are numbered together from 0 on.");
        PlaneProof x = Check.told("or a;or b;", "low c;top d;");
        Check.same("the first", 1, x.lits(0, false));
        Check.same("the last of the claim", 2, x.lits(1, false));
        Check.same("the first of the proof", 3, x.line(2, 0));
        Check.same("the last", 4, x.line(3, 0));
        Check.fails("none behind it", IndexOutOfBoundsException.class, () -> x.line(4, 0));
        PlaneProof none = Check.told("", "low c;");
        Check.same("without a claim", 3, none.line(0, 0));
        PlaneProof most = Check.told("or a;".repeat(16), "low b;".repeat(40));
        Check.same("the last of all", 3, most.line(55, 0));
        Check.fails("none behind that", IndexOutOfBoundsException.class, () -> most.line(56, 0));
    }

    private static void linesAhead() {
        Check.says("L is the number of a LINE ahead.");
        right(1, "plane 0;");
        right(2, "low a;mul 4 2;");
        right(2, "low a;mul 04 2;");
        wrong("plane ^4;");
        wrong("low a;mul ^5 2;");
        wrong("low a;mul ^6 2;low a;low a;");
        wrong("low a;mul ^99 2;");
        Check.wrongProof("", "plane ^0;");
        Check.wrongProof("", "mul ^0 1;");
        Check.rightProof("or a;".repeat(16), 40, "low a;".repeat(39) + "mul 54 1;");
        Check.wrongProof("or a;".repeat(16), "low a;".repeat(39) + "mul ^55 1;");
        // Line 4 of the proof ahead of this one is none of this one.
        PlaneProof x = Check.told(CLAIM, "low a;low b;");
        Check.tape(x, "mul 4 2;");
        Check.fails("a line of the proof before", IllegalArgumentException.class, x::proof);
        Check.same("at that number", 4, x.fault());
    }

    private static void res() {
        Check.says("res L L V: of a CLAUSE with V and a CLAUSE with - V all other LITS, no VARIABLE being in both ways.");
        right(1, "res 0 1 a;");
        wrong("res 1 0 ^a;");
        wrong("res 0 0 ^a;");
        wrong("res 1 2 ^a;");
        wrong("res 0 1 ^b;");
        wrong("res 0 1 ^c;");
        // b stands both ways.
        wrong("res 0 2 ^a;");
        Check.wrongProof("or a;or b;", "res 0 1 ^a;");
        Check.wrongProof("or b;or - a;", "res 0 1 ^a;");
        Check.wrongProof("or a c;or - a - c;", "res 0 1 ^a;");
        PlaneProof x = Check.told("or f;or - f;or a b - c f;or - f - c d - e;", "res 0 1 f;res 2 3 f;res 2 1 f;");
        Check.same("no other lits", 0, x.lits(4, false) | x.lits(4, true));
        Check.same("all others, V", 11, x.lits(5, false));
        Check.same("all others, - V", 20, x.lits(5, true));
        Check.same("those of one alone", 3, x.lits(6, false));
        PlaneProof widest = Check.told("or a b c d e f;or - a b c d e f;", "res 0 1 a;");
        Check.same("five of six", 62, widest.lits(2, false));
    }

    private static void weak() {
        Check.says("weak L LIT { LIT }: a CLAUSE, and these LITS, of VARIABLES that it does not have (each once).");
        wrong("weak 0^;");
        wrong("weak 0 -^;");
        wrong("weak 0 ^a;");
        wrong("weak 0 - ^a;");
        wrong("weak 1 ^a;");
        wrong("weak 1 - ^a;");
        wrong("weak 0 c ^b;");
        wrong("weak 0 c ^c;");
        wrong("weak 0 c - ^c;");
        wrong("weak 0 c d e f ^c;");
        PlaneProof x = Check.told("or - a;or a;", "weak 0 f;weak 0 - b c - d e - f;res 1 0 a;weak 4 - f;weak 4 a b c d e f;");
        Check.same("one lit", 32, x.lits(2, false));
        Check.same("what it had", 1, x.lits(2, true));
        Check.same("all others, V", 20, x.lits(3, false));
        Check.same("all others, - V", 43, x.lits(3, true));
        Check.same("of a clause without lits", 32, x.lits(5, true));
        Check.same("all six", 63, x.lits(6, false));
        Check.wrongProof("or a b c d e f;", "weak 0 ^a;");
        Check.wrongProof("or a b c d e f;", "weak 0^;");
    }

    private static void lowAndTop() {
        Check.says("low V: the PLANE with COEFFICIENT 1 of V, BOUND 0.");
        PlaneProof x = Check.told("", "low a;low f;top a;top f;");
        Check.same("the first", "1 0 0 0 0 0 least 0", Check.planeOf(x, 0));
        Check.same("the last", "0 0 0 0 0 1 least 0", Check.planeOf(x, 1));
        wrong("low ^g;");
        wrong("low ^- a;");
        Check.says("top V: that with COEFFICIENT -1 of V, BOUND -1.");
        Check.same("the first", "-1 0 0 0 0 0 least -1", Check.planeOf(x, 2));
        Check.same("the last", "0 0 0 0 0 -1 least -1", Check.planeOf(x, 3));
        wrong("top ^g;");
        wrong("top ^- a;");
    }

    private static void planes() {
        Check.says("plane L: of a CLAUSE: COEFFICIENTS 1 of each V, -1 of each - V, 0 of others; "
            + "the BOUND is 1, and one less for each - V.");
        PlaneProof x = Check.told(SIGNS, "plane 0;plane 1;plane 2;plane 3;plane 4;plane 5;plane 6;");
        String[] due = {"1 1 1 1 1 1 least 1", "1 1 1 1 1 -1 least 0", "1 1 1 1 -1 -1 least -1", "1 1 1 -1 -1 -1 least -2",
            "1 1 -1 -1 -1 -1 least -3", "1 -1 -1 -1 -1 -1 least -4", "-1 -1 -1 -1 -1 -1 least -5"};
        for (int k = 0; k < due.length; k++) {
            Check.same("with " + k + " - V", due[k], Check.planeOf(x, 7 + k));
        }
        PlaneProof y = Check.told("or c;or - c;", "res 0 1 c;plane 2;plane 0;plane 1;");
        Check.same("without lits", "0 0 0 0 0 0 least 1", Check.planeOf(y, 3));
        Check.same("one V", "0 0 1 0 0 0 least 1", Check.planeOf(y, 4));
        Check.same("one - V", "0 0 -1 0 0 0 least 0", Check.planeOf(y, 5));
        wrong("plane ^3;");
    }

    private static void add() {
        Check.says("add L L: of two PLANES, all together.");
        PlaneProof x = Check.told("sum 5 a - 3 b least 4;sum - 5 a - 3 b c least - 9;", "add 0 1;add 1 0;add 0 0;");
        Check.same("one and another", "0 -6 1 0 0 0 least -5", Check.planeOf(x, 2));
        Check.same("the other way round", 2, x.same(3));
        Check.same("one twice", "10 -6 0 0 0 0 least 8", Check.planeOf(x, 4));
        wrong("add ^0 3;");
        wrong("add 3 ^0;");
        wrong("add 3^;");
        wrong("add 3 3 ^3;");
    }

    private static void mul() {
        Check.says("mul L N: a PLANE N times (N 1 to 9).");
        PlaneProof x = Check.told("sum 5 a - 3 b least - 4;", "mul 0 1;mul 0 9;mul 0 09;");
        Check.same("once", 0, x.same(1));
        Check.same("nine times", "45 -27 0 0 0 0 least -36", Check.planeOf(x, 2));
        Check.same("told by two digits", 2, x.same(3));
        wrong("mul 3 ^0;");
        wrong("mul 3 ^00;");
        wrong("mul 3 ^10;");
        wrong("mul 3 ^99;");
        wrong("mul 3 ^- 1;");
        wrong("mul 3^;");
        wrong("mul ^0 2;");
    }

    private static void div() {
        Check.says("div L N: a PLANE by N (2 to 9), which parts all COEFFICIENTS without rest");
        PlaneProof x = Check.told("sum 18 a - 36 f least 90;", "div 0 2;div 0 9;div 0 09;");
        Check.same("by 2", "9 0 0 0 0 -18 least 45", Check.planeOf(x, 1));
        Check.same("by 9", "2 0 0 0 0 -4 least 10", Check.planeOf(x, 2));
        Check.same("told by two digits", 2, x.same(3));
        wrong("div 3 ^0;");
        wrong("div 3 ^1;");
        wrong("div 3 ^01;");
        wrong("div 3 ^10;");
        wrong("div 3 ^20;");
        Check.wrongProof("sum 10 a 20 b least 3;", "div 0 ^10;");
        Check.wrongProof("sum 10 a 20 b least 3;", "div 0 ^1;");
        Check.wrongProof("sum 10 a 20 b least 3;", "div 0 ^0;");
        wrong("div 3^;");
        wrong("div ^1 2;");
        wrong("div 3 ^3;");
        Check.wrongProof("sum 4 a - 6 b least 2;", "div 0 ^4;");
        Check.wrongProof("sum - 6 b 4 f least 2;", "div 0 ^3;");
        // The bound need not be parted without rest.
        Check.rightProof("sum 4 a least 3;", 1, "div 0 4;");
        PlaneProof y = Check.told("sum a least 1;sum - a least 4;", "add 0 1;div 2 9;div 2 2;");
        Check.same("all are 0", "0 0 0 0 0 0 least 1", Check.planeOf(y, 3));
        Check.same("all are 0, by 2", "0 0 0 0 0 0 least 3", Check.planeOf(y, 4));
    }

    private static void roundedUp(int bound, int by, int due) {
        String told = bound < 0 ? "- " + -bound : "" + bound;
        PlaneProof x = Check.told("sum 72 a least " + told + ";", "div 0 " + by + ";");
        Check.same(bound + " by " + by, due, x.plane(1, -1));
    }

    private static void divRoundsUp() {
        Check.says("BOUND is rounded up.");
        roundedUp(0, 2, 0);
        roundedUp(1, 2, 1);
        roundedUp(2, 2, 1);
        roundedUp(3, 2, 2);
        roundedUp(-1, 2, 0);
        roundedUp(-2, 2, -1);
        roundedUp(-3, 2, -1);
        roundedUp(1, 9, 1);
        roundedUp(8, 9, 1);
        roundedUp(9, 9, 1);
        roundedUp(10, 9, 2);
        roundedUp(-8, 9, 0);
        roundedUp(-9, 9, -1);
        roundedUp(-10, 9, -1);
        roundedUp(-18, 9, -2);
        roundedUp(-99, 8, -12);
        roundedUp(99, 8, 13);
    }

    private static void clauses() {
        Check.says("clause L { LIT }: of a PLANE a CLAUSE of these LITS (no VARIABLE twice), "
            + "such that there are no VALUES by which the PLANE holds and the CLAUSE does not.");
        String plane = "sum a b c least 2;sum a least 2;sum a least 0;sum a - b least - 1;sum a - b least 0;";
        Check.rightProof(plane, 1, "clause 0 a b;");
        Check.rightProof(plane, 1, "clause 0 a b c;");
        Check.rightProof(plane, 1, "clause 0 c a - f;");
        Check.rightProof(plane, 1, "clause 0 f e d c b a;");
        Check.wrongProof(plane, "^clause 0 a;");
        Check.wrongProof(plane, "^clause 0 a - b;");
        Check.wrongProof(plane, "^clause 0;");
        Check.wrongProof(plane, "clause 0 a ^a;");
        Check.wrongProof(plane, "clause 0 a - ^a;");
        Check.wrongProof(plane, "clause 0 a b c d e f ^a;");
        // A plane that never holds gives any clause, that without lits too.
        Check.rightProof(plane, 3, "clause 1;clause 1 f;clause 1 - a;");
        // One that always holds gives none.
        Check.wrongProof(plane, "^clause 2 a b c d e f;");
        Check.wrongProof(plane, "^clause 3 a - b;");
        Check.rightProof(plane, 1, "clause 4 a - b;");
        Check.wrongProof(plane, "^clause 4 a b;");
        wrong("clause ^0 a b;");
        PlaneProof x = Check.told("sum a least 2;", "clause 0;clause 0 - f a;");
        Check.same("no lits", 0, x.lits(1, false) | x.lits(1, true));
        Check.same("its V", 1, x.lits(2, false));
        Check.same("its - V", 32, x.lits(2, true));
    }

    private static void coefficientLimits() {
        Check.says("COEFFICIENTS are at most 999, BOUNDS 9999 (and no less than -999, -9999).");
        String above = "sum 99 f least 0;sum 9 f least 0;sum f least 0;";
        String to999 = "mul 0 9;add 3 0;add 4 1;";
        Check.rightProof(above, 3, to999);
        Check.same("999", 999, Check.told(above, to999).plane(5, 5));
        Check.wrongProof(above, to999 + "add 5 ^2;");
        Check.wrongProof(above, to999 + "add 2 ^5;");
        String below = "sum - 99 a least 0;sum - 9 a least 0;sum - a least 0;";
        Check.rightProof(below, 3, to999);
        Check.same("-999", -999, Check.told(below, to999).plane(5, 0));
        Check.wrongProof(below, to999 + "add 5 ^2;");
        // 37 times 27 is 999, 25 times 5 times 8 is 1000.
        Check.rightProof("sum 37 c least 0;", 2, "mul 0 3;mul 1 9;");
        Check.wrongProof("sum 25 c least 0;", "mul 0 5;mul 1 ^8;");
        Check.rightProof("sum - 37 c least 0;", 2, "mul 0 3;mul 1 9;");
        Check.wrongProof("sum - 25 c least 0;", "mul 0 5;mul 1 ^8;");
        Check.rightProof("sum 37 a - 37 f least 0;", 3, "mul 0 3;mul 1 9;mul 2 1;");
        Check.wrongProof("sum a 25 f least 0;", "mul 0 5;mul 1 ^8;");
    }

    private static void boundLimits() {
        // 99 times 101 is 9999.
        String toMost = "mul 0 9;mul 3 9;add 4 3;add 5 3;add 6 0;add 7 0;";
        String above = "sum a least 99;sum a least 1;sum a least - 1;";
        Check.rightProof(above, 6, toMost);
        Check.same("9999", 9999, Check.told(above, toMost).plane(8, -1));
        Check.wrongProof(above, toMost + "add 8 ^1;");
        Check.rightProof(above, 8, toMost + "add 8 2;add 9 1;");
        String below = "sum a least - 99;sum a least - 1;sum a least 1;";
        Check.rightProof(below, 6, toMost);
        Check.same("-9999", -9999, Check.told(below, toMost).plane(8, -1));
        Check.wrongProof(below, toMost + "add 8 ^1;");
        Check.rightProof(below, 8, toMost + "add 8 2;add 9 1;");
        // 11 times 9 times 101 is 9999: 11 times 101 is 1111.
        String to1111 = "mul 0 9;mul 1 9;add 2 1;add 3 1;add 4 0;add 5 0;";
        Check.rightProof("sum a least 11;", 7, to1111 + "mul 6 9;");
        Check.rightProof("sum a least - 11;", 7, to1111 + "mul 6 9;");
        // 40 times 5 times 5 times 2 is 2000, and five times that 10000.
        Check.wrongProof("sum a least 40;", "mul 0 5;mul 1 5;mul 2 2;mul 3 ^5;");
        Check.wrongProof("sum a least - 40;", "mul 0 5;mul 1 5;mul 2 2;mul 3 ^5;");
    }
}
