import java.util.NoSuchElementException;

/** Promises 13, 21, 34 to 37: what values are left, what follows by units, cores, pure variables. */
public final class ModelTest {
    public static void main(String[] args) {
        models();
        unitsOfClauses();
        unitsOfPlanes();
        unitsStopAtTheFirstClash();
        unitsWrong();
        cores();
        aLongCore();
        without();
        pure();
        stands();
        Check.finish("ModelTest");
    }

    private static PlaneProof of(String claim) {
        PlaneProof x = new PlaneProof();
        Check.claim(x, claim);
        return x;
    }

    private static void models() {
        PlaneProof x = of("or a;or - b;sum c d e f least 3;");
        Check.same("13: how many", 5, x.model(-1));
        int[] due = {29, 45, 53, 57, 61, -1};
        for (int k = 0; k < due.length; k++) {
            Check.same("13: model " + k, due[k], x.model(k));
        }
        Check.same("13: k below NONE", -1, x.model(-2));
        Check.same("13: least k", -1, x.model(Integer.MIN_VALUE));
        Check.same("13: greatest k", -1, x.model(Integer.MAX_VALUE));
        Check.proof(x, "low a;top b;plane 0;");
        Check.same("13: lines of the proof do not count", 5, x.model(-1));
        Check.same("13: none", 0, of("or a;or - a;").model(-1));
        Check.same("13: none has no first", -1, of("or a;or - a;").model(0));
        Check.same("13: all", 63, new PlaneProof().model(63));
        Check.same("13: the first of all", 0, new PlaneProof().model(0));
    }

    private static void units(PlaneProof x, int ones, int noughts, int... due) {
        for (int what = 0; what < due.length; what++) {
            Check.same("21: " + ones + " " + noughts + " what " + what, due[what], x.units(ones, noughts, what));
        }
    }

    private static void unitsOfClauses() {
        PlaneProof x = of("or - c d;or - b c;or - a b;or - d e - f;");
        units(x, 0, 0, 0, 0, 0);
        units(x, 1, 0, 15, 0, 0);
        units(x, 33, 0, 63, 0, 0);
        units(x, 0, 8, 0, 15, 0);
        units(x, 1, 16, 15, 48, 0);
        units(x, 8, 16, 8, 48, 0);
        units(x, 32, 16, 32, 31, 0);
        units(of("or a b;"), 0, 3, 0, 3, 1);
        units(of("or a b;"), 1, 2, 1, 2, 0);
        units(new PlaneProof(), 5, 10, 5, 10, 0);
        units(of("or f;or - f e;"), 0, 0, 48, 0, 0);
    }

    private static void unitsOfPlanes() {
        units(of("sum 3 a 2 b c least 5;"), 0, 0, 3, 0, 0);
        units(of("sum 3 a 2 b c least 4;"), 0, 0, 1, 0, 0);
        units(of("sum 3 a 2 b c least 6;"), 0, 0, 7, 0, 0);
        units(of("sum 3 a 2 b c least 7;"), 0, 0, 0, 0, 1);
        units(of("sum 3 a 2 b c least 3;"), 0, 1, 6, 1, 0);
        units(of("sum 3 a 2 b c least 3;"), 0, 3, 0, 3, 1);
        units(of("sum - 3 a - 2 b - c least - 2;"), 0, 0, 0, 1, 0);
        units(of("sum - 3 a - 2 b - c least - 2;"), 2, 0, 2, 5, 0);
        units(of("sum 2 a - 2 b least 1;"), 0, 0, 1, 2, 0);
        units(of("sum a b least 0;"), 0, 0, 0, 0, 0);
        // The sum of planes forces no more than each alone.
        units(of("sum a b least 1;sum a - b least 0;"), 0, 0, 0, 0, 0);
    }

    private static void unitsStopAtTheFirstClash() {
        units(of("or a;or - a;or b;"), 0, 0, 1, 0, 1);
        units(of("or b;or a;or - a;"), 0, 0, 3, 0, 1);
        units(of("or - a b;or a;or - b;or c;"), 0, 0, 5, 2, 1);
        units(of("or c;sum a b least 3;or d;"), 0, 0, 4, 0, 1);
    }

    private static void unitsWrong() {
        PlaneProof x = of("or a;");
        int[][] sets = {{1, 1}, {63, 32}, {64, 0}, {0, 64}, {-1, 0}, {0, -1}, {Integer.MIN_VALUE, 0}, {0, Integer.MAX_VALUE}};
        for (int[] two : sets) {
            Check.fails("21: " + two[0] + " " + two[1], IllegalArgumentException.class, () -> x.units(two[0], two[1], 0));
            Check.fails("21: sets come first", IllegalArgumentException.class, () -> x.units(two[0], two[1], 3));
        }
        for (int what : new int[] {-1, 3, Integer.MAX_VALUE, Integer.MIN_VALUE}) {
            Check.fails("21: what " + what, NoSuchElementException.class, () -> x.units(0, 0, what));
        }
    }

    private static void core(String claim, int size, int set) {
        PlaneProof x = of(claim);
        Check.same("34: how many of " + claim, size, x.core(false));
        Check.same("34: which of " + claim, set, x.core(true));
        Check.same("34: again", set, x.core(true));
    }

    private static void cores() {
        core("", -1, -1);
        core("or a;", -1, -1);
        core("or a;or - a;", 2, 3);
        core("or a;or b;or - a;or - b;", 2, 5);
        core("or a;or b;or - b;or - a;", 2, 6);
        core("sum a b least 3;or a;or - a;", 1, 1);
        core("or a;or - a;sum a b least 3;", 1, 4);
        core("or a b;or - a b;or - b;or c;or a - b;or - c;", 2, 40);
        core("or a b;or a - b;or - a b;sum - a - b least - 1;sum a b least 0;", 4, 15);
        core("or c;or a b;or - a;or - b;or a;or b;or - a - b;", 2, 20);
    }

    private static void aLongCore() {
        // Each clause rules one of the sixteen values of a to d out, so all are needed.
        StringBuilder claim = new StringBuilder();
        for (int values = 0; values < 16; values++) {
            claim.append("or");
            for (int v = 0; v < 4; v++) {
                claim.append((values >> v & 1) != 0 ? "-" : " ").append((char) ('a' + v));
            }
            claim.append(';');
        }
        core(claim.toString(), 16, 65535);
    }

    private static void without() {
        PlaneProof x = of("or a;or b;or - b;");
        int[] due = {0, 16, 16};
        for (int axiom = 0; axiom < due.length; axiom++) {
            Check.same("35: without " + axiom, due[axiom], x.without(axiom));
        }
        Check.proof(x, "low a;");
        for (int axiom : new int[] {-1, 3, 4, Integer.MIN_VALUE, Integer.MAX_VALUE}) {
            Check.fails("35: axiom " + axiom, IndexOutOfBoundsException.class, () -> x.without(axiom));
        }
        Check.same("35: the only one", 64, of("or a;").without(0));
        Check.same("35: one of two the same", 32, of("or a;or a;").without(0));
    }

    private static void pure() {
        PlaneProof x = of("or a - b;or a c;sum - 2 d - c 3 e least 0;");
        Check.same("36: V alone", 17, x.pure(false));
        Check.same("36: - V alone", 10, x.pure(true));
        Check.proof(x, "top a;low b;");
        Check.same("36: lines of the proof do not count", 17, x.pure(false));
        Check.same("36: of none", 0, new PlaneProof().pure(true));
        PlaneProof y = of("source a;step b from a;sink b;");
        Check.same("36: of a graph", 0, y.pure(false) | y.pure(true));
    }

    private static void stands() {
        PlaneProof x = Check.told("or a - b;sum 2 a - c least 0;", "low a;top a;plane 0;add 2 3;weak 0 d;");
        int[] axioms = {2, 1, 1, 0, 0, 0};
        int[] proof = {4, 2, 0, 1, 0, 0};
        for (int v = 0; v < 6; v++) {
            Check.same("37: axioms " + v, axioms[v], x.stands(v, false));
            Check.same("37: proof " + v, proof[v], x.stands(v, true));
        }
        for (int v : new int[] {-1, 6, Integer.MIN_VALUE, Integer.MAX_VALUE}) {
            Check.fails("37: variable " + v, IndexOutOfBoundsException.class, () -> x.stands(v, false));
            Check.fails("37: variable " + v, IndexOutOfBoundsException.class, () -> x.stands(v, true));
        }
    }
}
