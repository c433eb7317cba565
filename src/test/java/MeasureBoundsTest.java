/** The boundary cases of what the document says of a LINE: FROM, NEEDS, NOUGHT, its measures, its VALUES. */
public final class MeasureBoundsTest {
    public static void main(String[] args) {
        fromAndNeeds();
        nought();
        refutes();
        length();
        width();
        depth();
        tree();
        keeps();
        keepsOfThoseNeeded();
        regular();
        values();
        cut();
        slack();
        Check.finish("MeasureBoundsTest");
    }

    private static void from(PlaneProof x, int line, int first, int second) {
        Check.same("the first of " + line, first, x.line(line, 2));
        Check.same("the second of " + line, second, x.line(line, 3));
    }

    private static void fromAndNeeds() {
        Check.says("A LINE comes FROM those told in it (an AXIOM, low, top from none), "
            + "and NEEDS itself, these, and what they NEED.");
        PlaneProof x = Check.told("or a b;or - a b;sum a b least 2;source a;step b from a;sink b;",
            "low a;top b;res 0 1 a;weak 8 c;plane 9;add 6 7;add 2 2;mul 12 1;div 12 2;clause 2 a;");
        for (int line = 0; line < 8; line++) {
            from(x, line, -1, -1);
            for (int other = 0; other < 16; other++) {
                Check.same(line + " needs " + other, line == other, x.needs(line, other));
            }
        }
        from(x, 8, 0, 1);
        from(x, 9, 8, -1);
        from(x, 10, 9, -1);
        from(x, 11, 6, 7);
        from(x, 12, 2, 2);
        from(x, 13, 12, -1);
        from(x, 14, 12, -1);
        from(x, 15, 2, -1);
        int[] needed = {10, 9, 8, 1, 0};
        int found = 0;
        for (int other = 0; other < 16; other++) {
            found += x.needs(10, other) ? 1 : 0;
        }
        for (int other : needed) {
            Check.yes("10 needs " + other, x.needs(10, other));
        }
        Check.same("and no more", needed.length, found);
        Check.no("none needs what stands behind it", x.needs(8, 9));
    }

    private static int noughtOf(String claim, String proof) {
        PlaneProof x = Check.told(claim, proof);
        return x.line(x.count(1) - 1, 5);
    }

    private static void nought() {
        Check.says("A LINE is NOUGHT: a CLAUSE without LITS, a PLANE without COEFFICIENTS (all 0) whose BOUND is 1 or more.");
        Check.same("a clause without lits", 1, noughtOf("or a;or - a;", "res 0 1 a;"));
        Check.same("a clause with one", 0, noughtOf("or a;", ""));
        Check.same("a clause with one - V", 0, noughtOf("or - f;", ""));
        Check.same("bound 1", 1, noughtOf("sum a least 1;sum - a least 0;", "add 0 1;"));
        Check.same("bound 0", 0, noughtOf("sum a least 0;sum - a least 0;", "add 0 1;"));
        Check.same("bound -1", 0, noughtOf("sum a least - 1;sum - a least 0;", "add 0 1;"));
        Check.same("bound 2", 1, noughtOf("sum f least 1;sum - f least 1;", "add 0 1;"));
        Check.same("a coefficient of f is left", 0, noughtOf("sum a 2 f least 9;sum - a - f least 9;", "add 0 1;"));
        Check.same("a coefficient of a is left", 0, noughtOf("sum - 2 a f least 9;sum a - f least 9;", "add 0 1;"));
        Check.same("never holding is not enough", 0, noughtOf("sum a least 99;", ""));
        Check.same("the plane of a clause without lits", 1, noughtOf("or a;or - a;", "res 0 1 a;plane 2;"));
        Check.same("the clause of a plane", 1, noughtOf("sum a least 2;", "clause 0;"));
    }

    private static void refutes() {
        Check.says("THE PROOF REFUTES, if some LINE is NOUGHT; the first is meant.");
        Check.same("no line", -1, new PlaneProof().refutes());
        Check.same("none is", -1, Check.told("or a;or - a;", "weak 0 b;").refutes());
        Check.same("one in the middle", 3, Check.told("or a;or - a;", "low a;res 0 1 a;low a;").refutes());
        Check.same("the first of three", 2, Check.told("or a;or - a;", "res 0 1 a;plane 2;res 0 1 a;").refutes());
        Check.same("the last of all", 55,
            Check.told("or a;or - a;".repeat(8), "low a;".repeat(39) + "res 0 1 a;").refutes());
    }

    private static void measured(PlaneProof x, int what, int... due) {
        for (int line = 0; line < due.length; line++) {
            Check.same("line " + line, due[line], x.measure(line, what));
        }
    }

    private static void length() {
        Check.says("LENGTH: how many LINES of THE PROOF it NEEDS.");
        PlaneProof x = Check.told("or a;or - a;sum a least 0;", "low b;res 0 1 a;plane 4;add 3 5;add 6 5;add 2 2;");
        measured(x, 0, 0, 0, 0, 1, 1, 2, 4, 5, 1);
        StringBuilder chain = new StringBuilder("low a;");
        for (int k = 16; k < 55; k++) {
            chain.append("mul ").append(k).append(" 1;");
        }
        PlaneProof most = Check.told("or a;".repeat(16), chain.toString());
        Check.same("all forty", 40, most.measure(55, 0));
    }

    private static void width() {
        Check.says("WIDTH: the most LITS of a CLAUSE that it NEEDS (0 without).");
        PlaneProof x = Check.told("or a;or - a;or a b c d e f;sum a least 2;", "low a;res 0 1 a;plane 2;clause 3;add 4 6;weak 5 a b;");
        measured(x, 1, 1, 1, 6, 0, 0, 1, 6, 0, 6, 2);
    }

    private static void depth() {
        Check.says("DEPTH: 0 of one that comes from none, else 1 more than the greatest of those it comes FROM.");
        PlaneProof x = Check.told("or a;sum a least 0;", "low a;top a;plane 0;add 2 3;add 5 4;add 4 5;mul 7 1;add 1 1;add 2 8;");
        measured(x, 2, 0, 0, 0, 0, 1, 1, 2, 2, 3, 1, 4);
    }

    private static void tree() {
        Check.says("TREE: 1, and TREES of those it comes FROM together (of one that is told twice in it, twice).");
        PlaneProof x = Check.told("or a;or - a;", "low a;add 2 2;add 3 2;add 4 4;res 0 1 a;weak 6 b;mul 3 1;");
        long[] due = {1, 1, 1, 3, 5, 11, 3, 4, 4};
        for (int line = 0; line < due.length; line++) {
            Check.same("line " + line, due[line], x.tree(line));
        }
        StringBuilder twice = new StringBuilder("add 0 1;");
        for (int k = 2; k < 41; k++) {
            twice.append("add ").append(k).append(' ').append(k).append(';');
        }
        PlaneProof most = Check.told("sum a least 0;sum - a least 0;", twice.toString());
        // Each is twice the one before and one: 2 to the 41st less 1.
        Check.same("more than an int holds", (1L << 41) - 1, most.tree(41));
    }

    private static int keptFor(String proof) {
        PlaneProof x = Check.told("or a;sum a least 0;", proof);
        return x.measure(x.count(1) - 1, 3);
    }

    private static void keeps() {
        Check.says("KEEPS: made one by one in order, LINES of THE PROOF that it NEEDS, each kept until the last of these "
            + "that comes FROM it is made (as that one is made it still is): the most that are kept at once, "
            + "with the one just made.");
        Check.same("an axiom", 0, keptFor(""));
        Check.same("one from none", 1, keptFor("low a;"));
        Check.same("one from an axiom", 1, keptFor("mul 1 2;"));
        Check.same("as it is made it still is", 2, keptFor("low a;mul 2 2;"));
        Check.same("twice the same", 2, keptFor("low a;add 2 2;"));
        Check.same("two at once", 3, keptFor("low a;low b;add 2 3;"));
        Check.same("gone as soon as it may", 2, keptFor("low a;mul 2 2;mul 3 2;mul 4 2;"));
        Check.same("gone ahead of the next", 3, keptFor("low a;mul 2 2;low b;add 3 4;"));
        Check.same("kept up to the last use", 3, keptFor("low a;mul 2 2;mul 3 2;mul 4 2;add 5 2;"));
        Check.same("the most is in the middle", 4, keptFor("low a;low b;low c;add 3 4;add 2 5;mul 6 2;mul 7 1;"));
        Check.same("axioms are not kept", 2, keptFor("add 1 1;add 1 2;"));
        StringBuilder many = new StringBuilder("low a;".repeat(20));
        for (int k = 0; k < 19; k++) {
            many.append("add ").append(k == 0 ? 2 : 21 + k).append(' ').append(3 + k).append(';');
        }
        Check.same("twenty, and the first sum", 21, keptFor(many.toString()));
    }

    private static void keepsOfThoseNeeded() {
        PlaneProof x = Check.told("", "low a;low b;mul 0 2;mul 0 3;mul 2 2;add 3 4;");
        Check.same("neither b nor the other use of a", 2, x.measure(4, 3));
        Check.same("both uses of a", 3, x.measure(5, 3));
        Check.same("what comes behind does not count", 2, x.measure(2, 3));
    }

    private static void regular() {
        Check.says("REGULAR: no res by a V NEEDS another res by the same V, among all that it NEEDS.");
        String claim = "or a b;or a - b;or - a b;or - a - b;";
        PlaneProof x = Check.told(claim, "res 0 1 b;res 2 3 b;res 4 5 a;weak 4 b;res 7 1 b;plane 8;low c;add 9 10;res 0 2 a;");
        measured(x, 4, 1, 1, 1, 1, 1, 1, 1, 1, 0, 0, 1, 0, 1);
        PlaneProof y = Check.told(claim, "res 0 1 b;plane 4;clause 5 a b;res 6 1 b;weak 7 c;");
        measured(y, 4, 1, 1, 1, 1, 1, 1, 1, 0, 0);
        PlaneProof deep = Check.told("or f a;or - a;or f;or - f e;or - e f;",
            "res 0 1 a;weak 5 a;res 6 1 a;res 2 3 f;res 8 4 e;res 9 3 f;");
        Check.same("by a again", 0, deep.measure(7, 4));
        Check.same("by f, then e", 1, deep.measure(9, 4));
        Check.same("by f, e, then f", 0, deep.measure(10, 4));
    }

    private static void values() {
        Check.says("VALUES are bits (a lowest, 0 to 63).");
        PlaneProof x = Check.claimed("sum a b c d e f least 6;sum - a - b - c - d - e - f least 0;or a;or f;");
        Check.yes("63 is all", x.holds(0, 63));
        Check.no("62 is not", x.holds(0, 62));
        Check.yes("0 is none", x.holds(1, 0));
        Check.no("1 is not", x.holds(1, 1));
        Check.yes("a is the lowest", x.holds(2, 1));
        Check.yes("f is the highest", x.holds(3, 32));
        for (int none : new int[] {-1, 64, -64, 128, Integer.MIN_VALUE, Integer.MAX_VALUE}) {
            Check.fails("holds by " + none, IllegalArgumentException.class, () -> x.holds(0, none));
            Check.fails("slack by " + none, IllegalArgumentException.class, () -> x.slack(0, none));
        }
    }

    private static int cutOf(String terms) {
        return Check.claimed("sum " + terms + " least 5;").cut(0);
    }

    private static void cut() {
        Check.says("CUT of a PLANE: the greatest number that parts all its COEFFICIENTS without rest (0, if all are 0).");
        Check.same("all are 0", 0, Check.told("sum a least 9;sum - a least 0;", "add 0 1;").cut(2));
        Check.same("one", 99, cutOf("99 f"));
        Check.same("one below 0", 99, cutOf("- 99 f"));
        Check.same("1", 1, cutOf("a"));
        Check.same("-1", 1, cutOf("- a"));
        Check.same("none in common", 1, cutOf("98 a 99 b"));
        Check.same("below and above 0", 7, cutOf("- 98 a 91 f"));
        Check.same("the bound does not count", 10, cutOf("10 a 20 b 30 c 40 d 50 e 60 f"));
        Check.same("the last spoils it", 1, cutOf("10 a 20 b 30 c 40 d 50 e 61 f"));
        Check.same("the greatest", 999, Check.told("sum 37 b least 0;", "mul 0 3;mul 1 9;").cut(2));
        // Those that part slowest.
        Check.same("55 and 89", 1, cutOf("55 a 89 b"));
    }

    private static void slack() {
        Check.says("SLACK of a LINE by VALUES: by how much its sum is more than its BOUND "
            + "(of a CLAUSE as of what plane makes of it).");
        PlaneProof x = Check.told("sum 2 a - 3 f least 1;or a b c d e f;or - a - b - c - d - e - f;or a;or - a;", "res 3 4 a;plane 5;");
        Check.same("one more", 1, x.slack(0, 1));
        Check.same("less", -4, x.slack(0, 32));
        Check.same("just the bound of a clause", 0, x.slack(1, 32));
        Check.same("none of six", -1, x.slack(1, 0));
        Check.same("all of six", 5, x.slack(1, 63));
        Check.same("all of six, - V", 5, x.slack(2, 0));
        Check.same("none of six, - V", -1, x.slack(2, 63));
        Check.same("one of six, - V", 0, x.slack(2, 62));
        Check.same("a clause without lits", -1, x.slack(5, 63));
        Check.same("its plane", -1, x.slack(6, 0));
    }
}
