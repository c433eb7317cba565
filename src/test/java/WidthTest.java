import java.util.NoSuchElementException;

/** Promises 22 to 24: all that resolution gives within a width. */
public final class WidthTest {
    public static void main(String[] args) {
        aChain();
        axiomsAreThereAnyway();
        roundsGoOnBehindTheEmptyClause();
        sameAxiomsAreOneClause();
        planesAreNoClauses();
        bothWaysNeverComes();
        widths();
        wrongNumbers();
        Check.finish("WidthTest");
    }

    private static PlaneProof of(String claim) {
        PlaneProof x = new PlaneProof();
        Check.claim(x, claim);
        return x;
    }

    private static void within(PlaneProof x, int width, int clauses, int rounds, int empty) {
        Check.same("22: clauses within " + width, clauses, x.within(width, 0));
        Check.same("22: rounds within " + width, rounds, x.within(width, 1));
        Check.same("22: empty within " + width, empty, x.within(width, 2));
    }

    private static void aChain() {
        PlaneProof x = of("or a;or - a b;or - b c;or - c;");
        // Width 0 lets nothing but the empty clause come, and no two axioms give it.
        within(x, 0, 4, 0, -1);
        // First b, - b; then c, - a and the empty clause.
        within(x, 1, 9, 2, 2);
        // First b, - b, - a c; then c, - a and the empty clause.
        within(x, 2, 10, 2, 2);
        Check.same("23: least width", 1, x.leastWidth());
        Check.yes("24: - a c", x.has(2, 4, 1));
        Check.no("24: not within 1", x.has(1, 4, 1));
        Check.yes("24: the empty one", x.has(1, 0, 0));
        Check.no("24: not within 0", x.has(0, 0, 0));
        Check.no("24: none such", x.has(6, 8, 0));
        Check.no("24: the other way", x.has(2, 1, 4));
    }

    private static void axiomsAreThereAnyway() {
        PlaneProof x = of("or a b c d e f;or - a b c d e f;");
        within(x, 0, 2, 0, -1);
        within(x, 4, 2, 0, -1);
        within(x, 5, 3, 1, -1);
        within(x, 6, 3, 1, -1);
        Check.yes("24: an axiom within 0", x.has(0, 63, 0));
        Check.yes("24: what comes", x.has(5, 62, 0));
        Check.same("23: none", -1, x.leastWidth());
    }

    private static void roundsGoOnBehindTheEmptyClause() {
        PlaneProof x = of("or a;or - a;or b c;or - c d;or - d e;");
        within(x, 0, 6, 1, 1);
        within(x, 2, 9, 2, 1);
        Check.same("23: width 0 is enough", 0, x.leastWidth());
        Check.yes("24: within 0", x.has(0, 0, 0));
    }

    private static void sameAxiomsAreOneClause() {
        within(of("or a b;or b a;or a b;"), 6, 1, 0, -1);
    }

    private static void planesAreNoClauses() {
        PlaneProof x = of("sum a least 1;or - a;sum a least 9;");
        within(x, 6, 1, 0, -1);
        Check.same("23: planes do not help", -1, x.leastWidth());
        within(new PlaneProof(), 6, 0, 0, -1);
    }

    private static void bothWaysNeverComes() {
        within(of("or a b;or - a - b;"), 6, 2, 0, -1);
    }

    private static void widths() {
        PlaneProof x = of("or a b;or a - b;or - a b;or - a - b;");
        within(x, 0, 4, 0, -1);
        within(x, 1, 9, 2, 2);
        within(x, 6, 9, 2, 2);
        Check.same("23: least width", 1, x.leastWidth());
        Check.proof(x, "res 0 1 b;");
        within(x, 0, 4, 0, -1);
        Check.claim(x, "or a;or - a;");
        within(x, 1, 3, 1, 1);
        within(x, 0, 3, 1, 1);
        // All clauses of three variables: down to one of two, one, none.
        PlaneProof y = of("or a b c;or a b-c;or a-b c;or a-b-c;or-a b c;or-a b-c;or-a-b c;or-a-b-c;");
        within(y, 1, 8, 0, -1);
        within(y, 2, 27, 3, 3);
        Check.same("23: of eight", 2, y.leastWidth());
    }

    private static void wrongNumbers() {
        PlaneProof x = of("or a;");
        for (int width : new int[] {-1, 7, Integer.MIN_VALUE, Integer.MAX_VALUE}) {
            Check.fails("22: width " + width, IllegalArgumentException.class, () -> x.within(width, 0));
            Check.fails("22: it comes first", IllegalArgumentException.class, () -> x.within(width, 3));
            Check.fails("24: width " + width, IllegalArgumentException.class, () -> x.has(width, 0, 0));
        }
        for (int what : new int[] {-1, 3, Integer.MIN_VALUE, Integer.MAX_VALUE}) {
            Check.fails("22: what " + what, NoSuchElementException.class, () -> x.within(0, what));
        }
        int[][] sets = {{1, 1}, {63, 32}, {64, 0}, {0, 64}, {-1, 0}, {0, -1}};
        for (int[] two : sets) {
            Check.fails("24: " + two[0] + " " + two[1], IllegalArgumentException.class, () -> x.has(0, two[0], two[1]));
        }
    }
}
