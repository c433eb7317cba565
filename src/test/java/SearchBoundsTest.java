/** The boundary cases of what the document says of MODELS, CORE, PURE, BY UNITS, WITHIN and PEBBLES. */
public final class SearchBoundsTest {
    public static void main(String[] args) {
        models();
        core();
        pure();
        unitsClash();
        unitsMust();
        unitsAgain();
        unitsEnd();
        withinAxioms();
        withinRounds();
        withinWidth();
        withinUntilNothingNew();
        leastWidth();
        moves();
        movesFromNone();
        noMoreThanP();
        leastPebbles();
        Check.finish("SearchBoundsTest");
    }

    private static void models() {
        Check.says("MODELS: VALUES by which all AXIOMS hold.");
        Check.same("no axioms", 64, new PlaneProof().model(-1));
        Check.same("none", 0, Check.claimed("or a;or - a;").model(-1));
        PlaneProof one = Check.claimed("sum a b c d e f least 6;");
        Check.same("one", 1, one.model(-1));
        Check.same("it is 63", 63, one.model(0));
        Check.same("no second", -1, one.model(1));
        PlaneProof least = Check.claimed("sum - a - b - c - d - e - f least 0;");
        Check.same("it is 0", 0, least.model(0));
        Check.same("a plane that always holds", 64, Check.claimed("sum a least 0;").model(-1));
        PlaneProof x = Check.told("or a;", "low b;plane 0;weak 0 b;");
        Check.same("lines of the proof do not count", 32, x.model(-1));
    }

    private static void coreOf(String claim, int many, int which) {
        PlaneProof x = Check.claimed(claim);
        Check.same("how many of " + claim, many, x.core(false));
        Check.same("which of " + claim, which, x.core(true));
    }

    private static void core() {
        Check.says("CORE: the fewest AXIOMS that have no MODEL together; of several the least as bits; none, if all have one.");
        coreOf("", -1, -1);
        coreOf("or a;or a b;", -1, -1);
        // One model alone, the least or the greatest, is one.
        coreOf("sum - a - b - c - d - e - f least 0;or - a;", -1, -1);
        coreOf("sum a b c d e f least 6;or a;", -1, -1);
        coreOf("sum a least 2;", 1, 1);
        coreOf("or a;sum a least 2;or - a;", 1, 2);
        coreOf("or a;or - a;sum a least 2;", 1, 4);
        coreOf("or a;or - a;", 2, 3);
        // The fewest, though the others are less as bits.
        coreOf("or a b;or a - b;or - a;or a;", 2, 12);
        // Of two with two each the least as bits, wherever it is told.
        coreOf("or a;or - a;or a;", 2, 3);
        coreOf("or a;or b;or - b;or - a;", 2, 6);
        coreOf("or a;or b;or - a;or - b;", 2, 5);
        coreOf("or c;or a;or a;or - a;or - a;", 2, 10);
        coreOf("or a;".repeat(14) + "or b;or - b;", 2, 49152);
        StringBuilder all = new StringBuilder();
        for (int values = 0; values < 16; values++) {
            all.append("or");
            for (int v = 0; v < 4; v++) {
                all.append((values >> v & 1) != 0 ? "-" : " ").append((char) ('c' + v));
            }
            all.append(';');
        }
        coreOf(all.toString(), 16, 65535);
        PlaneProof x = Check.told("or a;", "low b;mul 1 1;");
        Check.same("lines of the proof do not count", -1, x.core(false));
    }

    private static void pureOf(String claim, int ones, int noughts) {
        PlaneProof x = Check.claimed(claim);
        Check.same("V in " + claim, ones, x.pure(false));
        Check.same("- V in " + claim, noughts, x.pure(true));
    }

    private static void pure() {
        Check.says("PURE: VARIABLES that stand in AXIOMS one way alone (V or a COEFFICIENT above 0; - V or one below).");
        pureOf("", 0, 0);
        pureOf("or a;", 1, 0);
        pureOf("or - f;", 0, 32);
        pureOf("or a;or - a;", 0, 0);
        pureOf("sum a - b least 0;", 1, 2);
        pureOf("or a - b;sum 9 a - 9 b least 0;", 1, 2);
        pureOf("or a - b;sum - 9 a 9 b least 0;", 0, 0);
        pureOf("or a b c d e f;", 63, 0);
        pureOf("or - a - b - c - d - e - f;", 0, 63);
        pureOf("source a;source b;step c from a;sink c;", 2, 0);
        PlaneProof x = Check.told("or a - b;", "top a;low b;low c;");
        Check.same("lines of the proof do not count, V", 1, x.pure(false));
        Check.same("lines of the proof do not count, - V", 2, x.pure(true));
    }

    private static void units(String claim, int ones, int noughts, int... due) {
        PlaneProof x = Check.claimed(claim);
        for (int what = 0; what < 3; what++) {
            Check.same(claim + " from " + ones + ", " + noughts + " what " + what, due[what], x.units(ones, noughts, what));
        }
    }

    private static void unitsClash() {
        Check.says("BY UNITS: some VARIABLES are 1, some 0, as told; again and again, AXIOM by AXIOM: "
            + "if it can hold by no VALUES of the others any more, it is a CLASH;");
        units("", 0, 0, 0, 0, 0);
        units("", 63, 0, 63, 0, 0);
        units("", 0, 63, 0, 63, 0);
        units("or a b;", 0, 3, 0, 3, 1);
        units("or a b c d e f;", 0, 63, 0, 63, 1);
        units("or a b c d e f;", 32, 31, 32, 31, 0);
        units("or - a - b;", 3, 0, 3, 0, 1);
        units("sum 2 a 3 b least 5;", 3, 0, 3, 0, 0);
        units("sum 2 a 3 b least 6;", 3, 0, 3, 0, 1);
        units("sum 2 a 3 b least 6;", 0, 0, 0, 0, 1);
        units("sum - 2 a - 3 b least - 2;", 2, 0, 2, 0, 1);
        units("sum - 2 a - 3 b least - 3;", 2, 0, 2, 1, 0);
    }

    private static void unitsMust() {
        Check.says("a VARIABLE that must be 1, or 0, so that it can hold, is so from then on (from the lowest on, at once);");
        units("or a;", 0, 0, 1, 0, 0);
        units("or - f;", 0, 0, 0, 32, 0);
        units("or a b;", 0, 0, 0, 0, 0);
        units("or a b;", 0, 2, 1, 2, 0);
        units("or a b;", 1, 0, 1, 0, 0);
        units("sum 3 a 2 b least 3;", 0, 0, 1, 0, 0);
        units("sum 3 a 2 b least 2;", 0, 0, 0, 0, 0);
        units("sum 3 a 2 b least 4;", 0, 0, 3, 0, 0);
        units("sum - 3 a - 2 b least - 2;", 0, 0, 0, 1, 0);
        units("sum - 3 a - 2 b least - 3;", 0, 0, 0, 0, 0);
        units("sum a b c d e f least 6;", 0, 0, 63, 0, 0);
        units("sum - a - b - c - d - e - f least 0;", 0, 0, 0, 63, 0);
        // All at once: the next axiom finds both.
        units("sum a b least 2;or - b;or c;", 0, 0, 3, 0, 1);
        units("sum a - b least 1;or b;or c;", 0, 0, 1, 2, 1);
    }

    private static void unitsAgain() {
        // Each turn finds but one more, the last of six in the sixth.
        units("or - e f;or - d e;or - c d;or - b c;or - a b;or a;", 0, 0, 63, 0, 0);
        units("or - f e;or f - e;or e - d;or d - c;or c - b;or b - a;", 0, 16, 0, 63, 0);
        // And a clash that only the last of them brings.
        units("sum - a - b - c - d - e - f least - 5;or - e f;or - d e;or - c d;or - b c;or - a b;or a;", 0, 0, 31, 32, 1);
        units("or - e - f;or - e f;or - d e;or - c d;or - b c;or - a b;or a;", 0, 0, 31, 32, 1);
    }

    private static void unitsEnd() {
        Check.says("until nothing is new, or there is a CLASH.");
        units("or a;or - a;or b;", 0, 0, 1, 0, 1);
        units("or b;or a;or - a;", 0, 0, 3, 0, 1);
        units("or - a b;or a;or - b;or c;", 0, 0, 5, 2, 1);
        units("or - b;or - a b;or a;or c;", 0, 0, 0, 3, 1);
        // Without a clash by units, though there is no model.
        units("or a b;or a - b;or - a b;or - a - b;", 0, 0, 0, 0, 0);
        PlaneProof x = Check.told("or a b;", "low a;weak 0 c;");
        Check.same("lines of the proof do not count", 0, x.units(0, 3, 0));
    }

    private static void within(String claim, int width, int... due) {
        PlaneProof x = Check.claimed(claim);
        for (int what = 0; what < 3; what++) {
            Check.same(claim + " within " + width + " what " + what, due[what], x.within(width, what));
        }
    }

    private static void withinAxioms() {
        Check.says("WITHIN a WIDTH w: all CLAUSES among the AXIOMS are there;");
        within("", 6, 0, 0, -1);
        within("or a b c d e f;", 0, 1, 0, -1);
        within("or a;or a;sum a least 1;or a b;or b a;", 0, 2, 0, -1);
        within("sum a least 1;sum - a least 0;", 6, 0, 0, -1);
        PlaneProof x = Check.told("or a;", "weak 0 b;");
        Check.same("lines of the proof are not", 1, x.within(6, 0));
        Check.yes("one wider than the width", Check.claimed("or a - f;").has(0, 1, 32));
    }

    private static void withinRounds() {
        Check.says("in a ROUND of all twos that are there ahead of it all that res gives by some V comes");
        // First b and - c, of these c and - b, of these - a, - d and that without lits.
        within("or a;or - a b;or - b c;or - d - c;or d;", 1, 12, 3, 3);
        // What comes in a round is not used in that round.
        within("or a;or - a b;or - b;", 1, 6, 2, 2);
        within("or a;or - a;", 0, 3, 1, 1);
        Check.yes("by a", Check.claimed("or a b;or - a c;").has(2, 6, 0));
        Check.yes("by f, the second told first", Check.claimed("or - f c;or b f;").has(2, 6, 0));
    }

    private static void withinWidth() {
        Check.says("if it has at most w LITS (and no VARIABLE in both ways)");
        String claim = "or a b c;or - a d e;";
        within(claim, 3, 2, 0, -1);
        within(claim, 4, 3, 1, -1);
        within(claim, 6, 3, 1, -1);
        Check.no("four within 3", Check.claimed(claim).has(3, 30, 0));
        Check.yes("four within 4", Check.claimed(claim).has(4, 30, 0));
        within("or a b;or - a - b;", 6, 2, 0, -1);
        within("or a b c;or - a - b d;", 6, 2, 0, -1);
        within("or a b;or - a b;", 0, 2, 0, -1);
        within("or a b;or - a b;", 1, 3, 1, -1);
    }

    private static void withinUntilNothingNew() {
        Check.says("ROUNDS go on until nothing new comes.");
        // Each of five rounds gives but one more.
        within("or a;or - a b;or - b c;or - c d;or - d e;or - e f;", 1, 11, 5, -1);
        // They go on behind that without lits, which comes first with c: d is left.
        within("or a;or - a;or b;or - b c;or - c d;", 1, 8, 2, 1);
        within("or a b;or a - b;or - a b;or - a - b;", 1, 9, 2, 2);
    }

    private static void leastWidth() {
        Check.says("LEAST WIDTH: the least w by which the CLAUSE without LITS is there.");
        Check.same("no axioms", -1, new PlaneProof().leastWidth());
        Check.same("none", -1, Check.claimed("or a;or - a b;").leastWidth());
        Check.same("planes give none", -1, Check.claimed("sum a least 1;sum - a least 0;").leastWidth());
        Check.same("0", 0, Check.claimed("or f;or - f;").leastWidth());
        Check.same("wide axioms do not count", 0, Check.claimed("or a b c d e f;or f;or - f;").leastWidth());
        Check.same("1", 1, Check.claimed("or a;or - a b;or - b;").leastWidth());
        Check.same("2", 2, Check.claimed("or a b c;or - a;or - b;or - c;").leastWidth());
        Check.same("3", 3, Check.claimed("or a b c d;or - a;or - b;or - c;or - d;").leastWidth());
        Check.same("4", 4, Check.claimed("or a b c d e;or - a;or - b;or - c;or - d;or - e;").leastWidth());
        Check.same("5", 5, Check.claimed("or a b c d e f;or - a;or - b;or - c;or - d;or - e;or - f;").leastWidth());
    }

    private static void pebbled(String claim, int... due) {
        PlaneProof x = Check.claimed(claim);
        for (int p = 0; p < due.length; p++) {
            Check.same(claim + " with " + p, due[p], x.pebbled(p));
        }
    }

    private static void moves() {
        Check.says("PEBBLES: a MOVE lays one on a NODE without one, if all NODES behind its from have one "
            + "(on a source at any time), or takes one away;");
        pebbled("source a;sink a;", -1, 1, 1, 1, 1, 1, 1);
        pebbled("source a;step b from a;sink b;", -1, -1, 2, 2, 2, 2, 2);
        pebbled("source a;source b;step c from a b;sink c;", -1, -1, -1, 3, 3, 3, 3);
        // With two, a and b are each taken away once.
        pebbled("source a;step b from a;step c from b;step d from c;sink d;", -1, -1, 6, 5, 4, 4, 4);
        pebbled("source a;source b;source c;source d;source e;step f from a b c d e;sink f;", -1, -1, -1, -1, -1, -1, 6);
        // Other nodes and other axioms do not matter.
        pebbled("or - a;source a;source b;step c from b;sink a;sum a least 9;", -1, 1, 1, 1, 1, 1, 1);
    }

    private static void movesFromNone() {
        Check.says("at first there are none.");
        Check.same("a source is laid too", 1, Check.claimed("source f;sink f;").pebbled(6));
        PlaneProof x = Check.claimed("source a;step b from a;sink b;");
        Check.same("once", 2, x.pebbled(2));
        Check.same("and again from none", 2, x.pebbled(2));
    }

    private static void noMoreThanP() {
        Check.says("PEBBLED by p: the fewest MOVES until the SINK has one, no more than p lying at any time.");
        // The source stays up to the end; what is between is taken away where p asks for it.
        pebbled("source a;step b from a;step c from b;step d from c a;sink d;", -1, -1, -1, 5, 4, 4, 4);
        pebbled("source a;step b from a;step c from b;step d from c;step e from d a;sink e;", -1, -1, -1, 7, 6, 5, 5);
        pebbled("source a;source b;source c;step d from a b;step e from b c;step f from d e;sink f;", -1, -1, -1, -1, 8, 7, 6);
        pebbled("source a;step b from a;", -1, -1, -1, -1, -1, -1, -1);
    }

    private static void leastPebbles() {
        Check.says("LEAST PEBBLES: the least p by which it can be.");
        Check.same("1", 1, Check.claimed("source a;sink a;").pebbles());
        Check.same("2", 2, Check.claimed("source a;step b from a;step c from b;step d from c;sink d;").pebbles());
        Check.same("3", 3, Check.claimed("source a;source b;step c from a b;sink c;").pebbles());
        Check.same("4", 4, Check.claimed("source a;source b;source c;step d from a b c;sink d;").pebbles());
        Check.same("5", 5, Check.claimed("source a;source b;source c;source d;step e from a b c d;sink e;").pebbles());
        Check.same("6", 6, Check.claimed("source a;source b;source c;source d;source e;step f from a b c d e;sink f;").pebbles());
        Check.same("no sink", -1, Check.claimed("source a;").pebbles());
    }
}
