import java.util.NoSuchElementException;

/** The boundary cases of promises 13, 21 to 31 and 34 to 38: what is asked of the claim, and what is counted. */
public final class QuestionBoundsTest {
    public static void main(String[] args) {
        model();
        units();
        unitsOfNoSets();
        within();
        leastWidth();
        has();
        node();
        pebbled();
        pebbles();
        trim();
        translate();
        translated();
        core();
        without();
        pure();
        stands();
        countsOfNothing();
        countsOfAll();
        countsOfThoseUnused();
        Check.finish("QuestionBoundsTest");
    }

    private static void index(String what, Check.Call call) {
        Check.fails(what, IndexOutOfBoundsException.class, call);
    }

    private static void argument(String what, Check.Call call) {
        Check.fails(what, IllegalArgumentException.class, call);
    }

    private static void element(String what, Check.Call call) {
        Check.fails(what, NoSuchElementException.class, call);
    }

    private static void model() {
        Check.says("MODELS: how many (k NONE), or the k-th, the least first; NONE without.");
        PlaneProof all = new PlaneProof();
        Check.same("how many", 64, all.model(PlaneProof.NONE));
        for (int k = 0; k < 64; k++) {
            Check.same("model " + k, k, all.model(k));
        }
        Check.same("none behind the last", -1, all.model(64));
        PlaneProof x = Check.claimed("sum a f least 2;");
        Check.same("sixteen", 16, x.model(-1));
        Check.same("the least", 33, x.model(0));
        Check.same("the next", 35, x.model(1));
        Check.same("the greatest", 63, x.model(15));
        for (int k : new int[] {16, -2, Integer.MIN_VALUE, Integer.MAX_VALUE}) {
            Check.same("model " + k, -1, x.model(k));
        }
        PlaneProof none = Check.claimed("sum a least 2;");
        Check.same("none", 0, none.model(-1));
        Check.same("no first", -1, none.model(0));
    }

    private static void units() {
        Check.says("BY UNITS, from VARIABLES that are 1, and 0: what 0 those that are 1 then, 1 those that are 0, "
            + "2 1 if there is a CLASH, else 0. IllegalArgumentException: sets are none, or have one in common; "
            + "NoSuchElementException: another what.");
        PlaneProof x = Check.claimed("or a - b;or - c;");
        int[][] due = {{0, 0, 0, 4, 0}, {2, 0, 3, 4, 0}, {0, 1, 0, 7, 0}, {2, 1, 2, 1, 1}, {4, 0, 4, 0, 1}, {59, 4, 59, 4, 0}};
        for (int[] row : due) {
            for (int what = 0; what < 3; what++) {
                Check.same(row[0] + ", " + row[1] + " what " + what, row[2 + what], x.units(row[0], row[1], what));
            }
        }
        Check.same("nothing is kept of it", 4, x.units(0, 0, 1));
        element("what -1", () -> x.units(0, 0, -1));
        element("what 3", () -> x.units(0, 0, 3));
    }

    private static void unitsOfNoSets() {
        PlaneProof x = Check.claimed("or a;");
        int[][] none = {{64, 0}, {0, 64}, {-1, 0}, {0, -1}, {1, 1}, {32, 32}, {63, 63}, {63, 1}, {Integer.MIN_VALUE, 0},
            {0, Integer.MIN_VALUE}};
        for (int[] two : none) {
            argument("units of " + two[0] + ", " + two[1], () -> x.units(two[0], two[1], 0));
        }
        Check.same("all, none in common", 63, x.units(63, 0, 0));
        Check.same("none and all", 63, x.units(0, 63, 1));
        Check.same("each half", 21, x.units(21, 42, 0));
    }

    private static void within() {
        Check.says("WITHIN a WIDTH (0 to 6) what 0 how many CLAUSES there are, 1 how many ROUNDS brought something new, "
            + "2 the ROUND (1 the first; 0: an AXIOM) in which that without LITS came (NONE). "
            + "IllegalArgumentException: the WIDTH is none; NoSuchElementException: another what.");
        PlaneProof x = Check.claimed("or a b c d e f;or - a;or - b;or - c;or - d;or - e;or - f;");
        // Within 5 each round takes one more away: all sets of lits of the first, and six units.
        int[][] due = {{7, 0, -1}, {7, 0, -1}, {7, 0, -1}, {7, 0, -1}, {7, 0, -1}, {70, 6, 6}, {70, 6, 6}};
        for (int width = 0; width <= 6; width++) {
            for (int what = 0; what < 3; what++) {
                Check.same("within " + width + " what " + what, due[width][what], x.within(width, what));
            }
        }
        Check.same("in the first round", 1, Check.claimed("or a;or - a;").within(0, 2));
        argument("width -1", () -> x.within(-1, 0));
        argument("width 7", () -> x.within(7, 0));
        element("what -1", () -> x.within(0, -1));
        element("what 3", () -> x.within(6, 3));
    }

    private static void leastWidth() {
        Check.says("LEAST WIDTH; NONE: none.");
        PlaneProof x = new PlaneProof();
        Check.same("none", -1, x.leastWidth());
        Check.claim(x, "or a b c d e f;or - a;or - b;or - c;or - d;or - e;or - f;");
        Check.same("5", 5, x.leastWidth());
        Check.claim(x, "or a;or - a;");
        Check.same("0", 0, x.leastWidth());
        Check.claim(x, "or a;");
        Check.same("none again", -1, x.leastWidth());
    }

    private static void has() {
        Check.says("Whether a CLAUSE (VARIABLES as V, as - V) is there WITHIN a WIDTH. "
            + "IllegalArgumentException: the WIDTH is none, sets are none, or have one in common.");
        PlaneProof x = Check.claimed("or a b c d e f;or - a - b - c - d - e - f;or a;or - a;");
        Check.yes("six as V within 0", x.has(0, 63, 0));
        Check.yes("six as - V within 6", x.has(6, 0, 63));
        Check.yes("that without lits", x.has(0, 0, 0));
        Check.no("five within 4", x.has(4, 62, 0));
        Check.yes("five within 5", x.has(5, 62, 0));
        Check.no("never told", x.has(6, 2, 0));
        argument("width -1", () -> x.has(-1, 0, 0));
        argument("width 7", () -> x.has(7, 0, 0));
        argument("64", () -> x.has(0, 64, 0));
        argument("64 as - V", () -> x.has(0, 0, 64));
        argument("-1", () -> x.has(0, -1, 0));
        argument("-1 as - V", () -> x.has(0, 0, -1));
        argument("a in common", () -> x.has(0, 1, 1));
        argument("f in common", () -> x.has(0, 63, 32));
        Check.no("of nothing", new PlaneProof().has(6, 0, 0));
    }

    private static void node() {
        Check.says("NODES (what 0), sources (1), the SINK (2; NONE), those behind from of a NODE (10 and its VARIABLE). "
            + "NoSuchElementException: another what, it is no NODE.");
        PlaneProof x = Check.claimed("source f;source b;step a from f b;step e from a;sink a;or c;");
        Check.same("nodes", 51, x.node(0));
        Check.same("sources", 34, x.node(1));
        Check.same("the sink is a", 0, x.node(2));
        Check.same("behind a, the first what", 34, x.node(10));
        Check.same("behind a source", 0, x.node(11));
        Check.same("behind e", 1, x.node(14));
        Check.same("behind f, the last what", 0, x.node(15));
        for (int what : new int[] {-1, 3, 9, 12, 13, 16, 42, Integer.MIN_VALUE, Integer.MAX_VALUE}) {
            element("what " + what, () -> x.node(what));
        }
        Check.same("the sink is f", 5, Check.claimed("source f;sink f;").node(2));
        PlaneProof none = new PlaneProof();
        Check.same("no sink", -1, none.node(2));
        for (int what = 10; what <= 15; what++) {
            int it = what;
            element("no node " + what, () -> none.node(it));
        }
    }

    private static void pebbled() {
        Check.says("PEBBLED by p (0 to 6); NONE: it cannot be, or there is no SINK. IllegalArgumentException: p is none.");
        PlaneProof x = Check.claimed("source a;source b;source c;source d;source e;step f from a b c d e;sink f;");
        Check.same("by 0", -1, x.pebbled(0));
        Check.same("by 5", -1, x.pebbled(5));
        Check.same("by 6", 6, x.pebbled(6));
        argument("by -1", () -> x.pebbled(-1));
        argument("by 7", () -> x.pebbled(7));
        PlaneProof none = Check.claimed("source a;step b from a;");
        Check.same("no sink, by 0", -1, none.pebbled(0));
        Check.same("no sink, by 6", -1, none.pebbled(6));
        argument("no sink, by 7", () -> none.pebbled(7));
        argument("no sink, by -1", () -> none.pebbled(-1));
    }

    private static void pebbles() {
        Check.says("LEAST PEBBLES; NONE: there is no SINK.");
        Check.same("no nodes", -1, new PlaneProof().pebbles());
        Check.same("no sink", -1, Check.claimed("source a;step b from a;").pebbles());
        Check.same("the least", 1, Check.claimed("source a;sink a;").pebbles());
        Check.same("the most", 6,
            Check.claimed("source a;source b;source c;source d;source e;step f from a b c d e;sink f;").pebbles());
    }

    private static void trim() {
        Check.says("TRIMMED to a LINE: how many bytes.");
        PlaneProof x = Check.told("or a;", "low a;weak 0 b;");
        Check.same("an axiom", 0, x.trim(0));
        Check.same("one line", 6, x.trim(1));
        Check.same("the last line", 9, x.trim(2));
        index("line 3", () -> x.trim(3));
        index("line -1", () -> x.trim(-1));
        StringBuilder forty = new StringBuilder("add 10 11;");
        for (int k = 12; k < 51; k++) {
            forty.append("add ").append(k).append(' ').append(k).append(';');
        }
        PlaneProof most = Check.told("or a;".repeat(10) + "sum a least 0;sum - a least 0;", forty.toString());
        Check.same("forty lines of ten bytes", 400, most.trim(51));
    }

    private static void translate() {
        Check.says("PUT INTO PLANES: how many bytes. IllegalStateException: it cannot be.");
        PlaneProof x = Check.told("or a;sum a least 1;", "weak 0 b;clause 1 a;");
        Check.same("an axiom", 8, x.translate(0));
        Check.same("weak", 8 + 6 + 8, x.translate(2));
        Check.fails("a plane", IllegalStateException.class, () -> x.translate(1));
        Check.fails("a clause of a plane", IllegalStateException.class, () -> x.translate(3));
        index("line 4", () -> x.translate(4));
        index("line -1", () -> x.translate(-1));
    }

    private static void translated() {
        Check.says("How many LINES that has. IllegalStateException: it cannot be.");
        PlaneProof x = Check.told("or a b;or - a b c;sum a least 1;", "res 0 1 a;weak 3 a d e f;clause 2 a;");
        Check.same("an axiom", 1, x.translated(0));
        Check.same("res", 6, x.translated(3));
        Check.same("weak by four", 14, x.translated(4));
        Check.fails("a plane", IllegalStateException.class, () -> x.translated(2));
        Check.fails("a clause of a plane", IllegalStateException.class, () -> x.translated(5));
        index("line 6", () -> x.translated(6));
        index("line -1", () -> x.translated(-1));
        Check.same("nothing is written", 0, x.count(8));
    }

    private static void core() {
        Check.says("CORE: how many (set false), or which (bits); NONE: none.");
        PlaneProof x = new PlaneProof();
        Check.same("none", -1, x.core(false));
        Check.same("none, as a set", -1, x.core(true));
        Check.claim(x, "sum a least 2;");
        Check.same("one", 1, x.core(false));
        Check.same("the first", 1, x.core(true));
        Check.claim(x, "or b;or a;");
        Check.same("none again", -1, x.core(false));
        Check.same("none again, as a set", -1, x.core(true));
        Check.claim(x, "or b;".repeat(14) + "or a;or - a;");
        Check.same("two", 2, x.core(false));
        Check.same("the last two", 49152, x.core(true));
    }

    private static void without() {
        Check.says("How many MODELS there would be without an AXIOM. IndexOutOfBoundsException: there is no such AXIOM.");
        PlaneProof x = Check.told("or a;or b;or - b;", "low a;");
        Check.same("the first", 0, x.without(0));
        Check.same("the last", 16, x.without(2));
        index("a line of the proof", () -> x.without(3));
        index("-1", () -> x.without(-1));
        index("far above", () -> x.without(Integer.MAX_VALUE));
        index("far below", () -> x.without(Integer.MIN_VALUE));
        Check.same("the only one", 64, Check.claimed("sum a least 2;").without(0));
        Check.same("one told twice", 32, Check.claimed("or a;or a;").without(1));
        index("no axioms", () -> new PlaneProof().without(0));
        Check.same("the sixteenth", 32, Check.claimed("or a;".repeat(15) + "or - a;").without(15));
    }

    private static void pure() {
        Check.says("PURE ones that stand as V, or above 0 (not false), as - V, or below (true).");
        PlaneProof x = Check.claimed("or a - f;sum 2 b - 2 e least 0;or c - d;or - c d;");
        Check.same("V, or above 0", 3, x.pure(false));
        Check.same("- V, or below", 48, x.pure(true));
        Check.same("no axioms", 0, new PlaneProof().pure(false));
        Check.same("no axioms, - V", 0, new PlaneProof().pure(true));
    }

    private static void stands() {
        Check.says("In how many LINES a VARIABLE stands (proof false: AXIOMS; true: those of THE PROOF): as a LIT, "
            + "with a COEFFICIENT that is not 0.");
        PlaneProof x = Check.told("or a;or - a f;sum 2 a - f least 0;", "low a;top a;add 3 4;weak 0 f;res 0 1 a;");
        Check.same("a in axioms", 3, x.stands(0, false));
        Check.same("f in axioms", 2, x.stands(5, false));
        Check.same("a in the proof, not with 0", 3, x.stands(0, true));
        Check.same("f in the proof", 2, x.stands(5, true));
        Check.same("c nowhere", 0, x.stands(2, false));
        Check.same("c nowhere in the proof", 0, x.stands(2, true));
        for (int v : new int[] {-1, 6, Integer.MIN_VALUE, Integer.MAX_VALUE}) {
            index("variable " + v, () -> x.stands(v, false));
            index("variable " + v + " in the proof", () -> x.stands(v, true));
        }
        PlaneProof most = Check.told("or f;".repeat(16), "low f;".repeat(40));
        Check.same("all sixteen", 16, most.stands(5, false));
        Check.same("all forty", 40, most.stands(5, true));
    }

    private static void counts(PlaneProof x, int... due) {
        for (int what = 0; what < due.length; what++) {
            Check.same("count " + what, due[what], x.count(what));
        }
    }

    private static void countsOfNothing() {
        Check.says("0 AXIOMS, 1 LINES in all, 2 CLAUSES, 3 PLANES among all LINES, 4 res, 5 add, 6 div, 7 clause LINES, "
            + "8 bytes written, 9 MODELS, 10 LINES of THE PROOF that no LINE comes FROM. NONE for another what.");
        PlaneProof x = new PlaneProof();
        counts(x, 0, 0, 0, 0, 0, 0, 0, 0, 0, 64, 0);
        for (int what : new int[] {-1, 11, Integer.MIN_VALUE, Integer.MAX_VALUE}) {
            Check.same("count " + what, -1, x.count(what));
        }
    }

    private static void countsOfAll() {
        PlaneProof x = Check.told("or a;or - a;sum a least 2;", "res 0 1 a;clause 2;clause 2 b;low a;add 6 6;add 7 7;add 8 8;"
            + "div 7 2;div 8 2;mul 2 1;plane 3;weak 3 c;top a;res 0 1 a;res 0 1 a;res 0 1 a;div 8 2;div 8 2;div 8 4;");
        x.translate(3);
        // Nothing comes from 4, 5 and 9 to 21.
        counts(x, 3, 22, 9, 13, 4, 3, 5, 2, 24, 0, 15);
        PlaneProof most = Check.told("sum a least 0;".repeat(16), "low a;".repeat(40));
        counts(most, 16, 56, 0, 56, 0, 0, 0, 0, 0, 64, 40);
    }

    private static void countsOfThoseUnused() {
        Check.same("one that is used twice by the last", 1, Check.told("", "low a;add 0 0;").count(10));
        Check.same("axioms do not count", 0, Check.claimed("or a;").count(10));
        Check.same("a chain", 1, Check.told("or a;", "weak 0 b;weak 1 c;weak 2 d;").count(10));
    }
}
