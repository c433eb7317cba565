/** Promise 38: counts. */
public final class CountTest {
    public static void main(String[] args) {
        ofNothing();
        ofAll();
        Check.finish("CountTest");
    }

    private static void counts(PlaneProof x, int... due) {
        for (int what = 0; what < due.length; what++) {
            Check.same("38: what " + what, due[what], x.count(what));
        }
    }

    private static void ofNothing() {
        PlaneProof x = new PlaneProof();
        counts(x, 0, 0, 0, 0, 0, 0, 0, 0, 0, 64, 0, -1, -1);
        for (int what : new int[] {-1, -2, 11, Integer.MIN_VALUE, Integer.MAX_VALUE}) {
            Check.same("38: what " + what, -1, x.count(what));
        }
    }

    private static void ofAll() {
        PlaneProof x = Check.told("or a b;or - a b;sum 2 a 2 b least 2;",
            "res 0 1 a;res 0 1 a;low c;add 2 2;add 6 2;div 2 2;clause 2 a b;"
                + "plane 9;add 5 5;mul 2 1;top d;weak 9 c;");
        x.trim(3);
        // Nothing comes from 3, 4, 7, 8 and 10 to 14.
        counts(x, 3, 15, 6, 9, 2, 3, 1, 1, 10, 32, 9);
        Check.proof(x, "");
        counts(x, 3, 3, 2, 1, 0, 0, 0, 0, 10, 32, 0);
    }
}
