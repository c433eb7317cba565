import java.util.NoSuchElementException;

/** Promises 14 to 17: how long, wide, deep a proof is, what it keeps, as a tree, whether it is regular. */
public final class MeasureTest {
    public static void main(String[] args) {
        refuting();
        measures();
        keeping();
        keepsOnlyWhatIsNeeded();
        regular();
        trees();
        needing();
        wrongLines();
        Check.finish("MeasureTest");
    }

    private static void refuting() {
        Check.same("14: nothing", -1, new PlaneProof().refutes());
        PlaneProof x = Check.told("or a;or - a;sum 2 b least 3;", "low c;");
        Check.same("14: no line says it", -1, x.refutes());
        Check.proof(x, "low c;res 0 1 a;res 0 1 a;");
        Check.same("14: the first", 4, x.refutes());
        Check.proof(x, "top b;add 2 3;add 4 3;add 5 5;");
        Check.same("14: a plane, bound 1", 5, x.refutes());
        Check.proof(x, "clause 2;");
        Check.same("14: a clause of a plane", 3, x.refutes());
        PlaneProof y = Check.told("sum a least 0;sum - a least 0;", "add 0 1;");
        Check.same("14: bound 0 is none", -1, y.refutes());
        Check.same("15: an axiom refutes never", -1, Check.told("sum a least 99;", "").refutes());
    }

    private static void all(PlaneProof x, int line, int... due) {
        for (int what = 0; what < due.length; what++) {
            Check.same("15: line " + line + " what " + what, due[what], x.measure(line, what));
        }
    }

    private static void measures() {
        PlaneProof x = Check.told("or a b c;or - a;or - b;or - c;sum a b least 1;",
            "res 0 1 a;res 5 2 b;low f;res 6 3 c;add 4 4;plane 5;add 9 10;weak 2 a c d;");
        all(x, 0, 0, 3, 0, 0, 1);
        all(x, 1, 0, 1, 0, 0, 1);
        all(x, 4, 0, 0, 0, 0, 1);
        all(x, 5, 1, 3, 1, 1, 1);
        all(x, 6, 2, 3, 2, 2, 1);
        all(x, 7, 1, 0, 0, 1, 1);
        all(x, 8, 3, 3, 3, 2, 1);
        all(x, 9, 1, 0, 1, 1, 1);
        all(x, 10, 2, 3, 2, 2, 1);
        all(x, 11, 4, 3, 3, 3, 1);
        all(x, 12, 1, 4, 1, 1, 1);
        for (int what : new int[] {-1, 5, Integer.MAX_VALUE, Integer.MIN_VALUE}) {
            Check.fails("15: what " + what, NoSuchElementException.class, () -> x.measure(0, what));
            Check.fails("15: the line comes first", IndexOutOfBoundsException.class, () -> x.measure(13, what));
        }
    }

    private static void keeping() {
        // 0 is kept up to the last line, 1 and 2 go as 3 is made.
        PlaneProof x = Check.told("", "low a;low b;low c;add 1 2;add 3 3;add 4 0;add 5 5;");
        int[] due = {1, 1, 1, 3, 3, 4, 4};
        for (int line = 0; line < due.length; line++) {
            Check.same("15: keeps " + line, due[line], x.measure(line, 3));
        }
        PlaneProof y = Check.told("", "low a;mul 0 2;mul 1 2;mul 2 2;add 0 3;");
        Check.same("15: a chain", 2, y.measure(3, 3));
        Check.same("15: and the first of it", 3, y.measure(4, 3));
    }

    private static void keepsOnlyWhatIsNeeded() {
        // Line 2 also comes from 0, but 3 does not need it: 0 goes as 1 is made.
        PlaneProof x = Check.told("", "low a;mul 0 2;mul 0 3;mul 1 2;add 2 3;");
        Check.same("15: length without 2", 3, x.measure(3, 0));
        Check.same("15: keeps without 2", 2, x.measure(3, 3));
        Check.same("15: length with 2", 5, x.measure(4, 0));
        Check.same("15: keeps with 2", 3, x.measure(4, 3));
    }

    private static void regular() {
        String claim = "or a b;or a - b;or - a b;or - a - b;";
        PlaneProof x = Check.told(claim, "res 0 1 b;weak 4 b;res 5 1 b;res 2 3 b;res 4 7 a;res 6 7 a;plane 9;");
        Check.same("15: res", 1, x.measure(4, 4));
        Check.same("15: weak", 1, x.measure(5, 4));
        Check.same("15: the same V again", 0, x.measure(6, 4));
        Check.same("15: on two sides", 1, x.measure(8, 4));
        Check.same("15: it needs an irregular one", 0, x.measure(9, 4));
        Check.same("15: through a plane", 0, x.measure(10, 4));
        PlaneProof y = Check.told(claim, "res 0 1 b;plane 4;low b;add 5 6;clause 7 a b;res 8 1 b;");
        Check.same("15: a clause of a plane of a res", 1, y.measure(8, 4));
        Check.same("15: res by the same V behind planes", 0, y.measure(9, 4));
    }

    private static void trees() {
        PlaneProof x = Check.told("or a;or - a;", "res 0 1 a;weak 2 b c;low a;add 4 4;add 5 5;add 5 4;");
        long[] due = {1, 1, 3, 4, 1, 3, 7, 5};
        for (int line = 0; line < due.length; line++) {
            Check.same("16: line " + line, due[line], x.tree(line));
        }
        StringBuilder halving = new StringBuilder("low a;");
        for (int k = 0; k < 19; k++) {
            halving.append("add ").append(2 * k).append(' ').append(2 * k).append(";div ").append(2 * k + 1).append(" 2;");
        }
        PlaneProof y = Check.told("", halving.toString());
        long tree = 1;
        for (int k = 0; k < 19; k++) {
            tree = 2 * tree + 2;
        }
        Check.same("16: as a tree it is long", tree, y.tree(38));
        // All are 0, so that the sum can be doubled again and again.
        PlaneProof z = new PlaneProof();
        Check.claim(z, "sum a least 0;sum - a least 0;");
        StringBuilder doubling = new StringBuilder("add 0 1;");
        for (int k = 2; k < 41; k++) {
            doubling.append("add ").append(k).append(' ').append(k).append(';');
        }
        Check.same("16: forty lines", 40, Check.proof(z, doubling.toString()));
        long deep = 3;
        for (int k = 2; k < 41; k++) {
            deep = 2 * deep + 1;
        }
        Check.same("16: beyond an int", deep, z.tree(41));
        Check.same("15: forty deep", 40, z.measure(41, 2));
    }

    private static void needing() {
        PlaneProof x = Check.told("or a;or - a;or b;", "res 0 1 a;weak 3 b;weak 3 c;weak 4 d;");
        Check.yes("17: itself", x.needs(6, 6));
        Check.yes("17: what it comes from", x.needs(6, 4));
        Check.yes("17: what that needs", x.needs(6, 3));
        Check.yes("17: an axiom", x.needs(6, 1));
        Check.no("17: another axiom", x.needs(6, 2));
        Check.no("17: another line", x.needs(6, 5));
        Check.no("17: not the other way", x.needs(4, 6));
        Check.yes("17: an axiom itself", x.needs(2, 2));
        Check.no("17: an axiom no other", x.needs(2, 1));
    }

    private static void wrongLines() {
        PlaneProof x = Check.told("or a;", "weak 0 b;");
        for (int line : new int[] {-1, 2, 64, 65, Integer.MIN_VALUE, Integer.MAX_VALUE}) {
            Class<IndexOutOfBoundsException> due = IndexOutOfBoundsException.class;
            Check.fails("15: " + line, due, () -> x.measure(line, 0));
            Check.fails("16: " + line, due, () -> x.tree(line));
            Check.fails("17: " + line, due, () -> x.needs(line, 0));
            Check.fails("17: other " + line, due, () -> x.needs(0, line));
        }
    }
}
