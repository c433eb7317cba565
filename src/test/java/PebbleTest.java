import java.util.NoSuchElementException;

/** Promises 25 to 27: the graph of a claim, the least pebbles and moves. */
public final class PebbleTest {
    public static void main(String[] args) {
        nodes();
        wrongNodes();
        aPath();
        aPyramid();
        aSourceAsSink();
        sixAtOnce();
        onlyWhatTheSinkNeeds();
        noSink();
        Check.finish("PebbleTest");
    }

    private static PlaneProof of(String claim) {
        PlaneProof x = new PlaneProof();
        Check.claim(x, claim);
        return x;
    }

    private static void nodes() {
        PlaneProof x = of("or b c;source f;source a;step d from f a;sink d;step e from d f;");
        Check.same("25: nodes", 57, x.node(0));
        Check.same("25: sources", 33, x.node(1));
        Check.same("25: sink", 3, x.node(2));
        Check.same("25: behind a", 0, x.node(10));
        Check.same("25: behind d", 33, x.node(13));
        Check.same("25: behind e", 40, x.node(14));
        Check.same("25: behind f", 0, x.node(15));
        Check.fails("25: b is none", NoSuchElementException.class, () -> x.node(11));
        Check.fails("25: c is none", NoSuchElementException.class, () -> x.node(12));
    }

    private static void wrongNodes() {
        PlaneProof x = of("source a;step b from a;step c from a;step d from a;step e from a;step f from a;");
        for (int what : new int[] {-22, -1, 3, 4, 9, 16, 42, Integer.MIN_VALUE, Integer.MIN_VALUE + 9, Integer.MAX_VALUE}) {
            Check.fails("25: what " + what, NoSuchElementException.class, () -> x.node(what));
        }
        Check.same("25: no sink", -1, x.node(2));
    }

    private static void moves(PlaneProof x, int... due) {
        for (int p = 0; p < due.length; p++) {
            Check.same("26: with " + p, due[p], x.pebbled(p));
        }
    }

    private static void aPath() {
        PlaneProof x = of("source a;step b from a;step c from b;step d from c;sink d;");
        // With two: lay a, b, take a, lay c, take b, lay d.
        moves(x, -1, -1, 6, 5, 4, 4, 4);
        Check.same("27: a path", 2, x.pebbles());
    }

    private static void aPyramid() {
        PlaneProof x = of("source a;source b;source c;step d from a b;step e from b c;step f from d e;sink f;");
        // With four: a, b, d, take a, c, e, take one, f.
        moves(x, -1, -1, -1, -1, 8, 7, 6);
        Check.same("27: a pyramid", 4, x.pebbles());
    }

    private static void aSourceAsSink() {
        PlaneProof x = of("source e;sink e;");
        moves(x, -1, 1, 1, 1, 1, 1, 1);
        Check.same("27: a source", 1, x.pebbles());
    }

    private static void sixAtOnce() {
        PlaneProof x = of("source a;source b;source c;source d;source e;step f from a b c d e;sink f;");
        moves(x, -1, -1, -1, -1, -1, -1, 6);
        Check.same("27: all six", 6, x.pebbles());
    }

    private static void onlyWhatTheSinkNeeds() {
        PlaneProof x = of("source a;source b;step c from a;sink c;step d from a b c;");
        moves(x, -1, -1, 2, 2, 2, 2, 2);
        Check.same("27: two", 2, x.pebbles());
    }

    private static void noSink() {
        PlaneProof x = of("source a;step b from a;");
        moves(x, -1, -1, -1, -1, -1, -1, -1);
        Check.same("27: no sink", -1, x.pebbles());
        Check.same("27: no graph", -1, new PlaneProof().pebbles());
        for (int p : new int[] {-1, 7, Integer.MIN_VALUE, Integer.MAX_VALUE}) {
            Check.fails("26: p " + p, IllegalArgumentException.class, () -> x.pebbled(p));
        }
    }
}
