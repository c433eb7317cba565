/** Promises 1 to 3, and 6 ahead of any text: a new object and its tape. */
public final class TapeTest {
    public static void main(String[] args) {
        newObject();
        feedCounts();
        feedOrder();
        endCuts();
        textsUseTheTapeUp();
        Check.finish("TapeTest");
    }

    private static void newObject() {
        PlaneProof x = new PlaneProof();
        Check.same("1: NONE", -1, PlaneProof.NONE);
        Check.same("1: no axioms", 0, x.count(0));
        Check.same("1: no lines", 0, x.count(1));
        Check.same("1: nothing written", 0, x.count(8));
        Check.same("1: all values are models", 64, x.count(9));
        Check.same("1: no fault", -1, x.fault());
        Check.same("1: an empty tape is an empty claim", 0, x.claim());
        Check.same("1: an empty tape is an empty proof", 0, x.proof());
        Check.fails("1: no line", IndexOutOfBoundsException.class, () -> x.line(0, 0));
    }

    private static void feedCounts() {
        PlaneProof x = new PlaneProof();
        for (int k = 1; k <= 20; k++) {
            Check.same("2: feed " + k, 20 * k, x.feed(0x20202020, 0x20202020, 0x20202020, 0x20202020, 0x20202020));
        }
        Check.same("2: more than 400", -1, x.feed(0, 0, 0, 0, 0));
        Check.yes("2: none came", x.end(400));
        Check.no("2: none came, not one", x.end(401));
        Check.same("2: 400 blanks", 0, x.claim());
        Check.same("2: the tape is empty again", 20, x.feed(0, 0, 0, 0, 0));
        Check.yes("2: to 381", fillTo381(x));
        Check.same("2: 401 would be too many", -1, x.feed(0, 0, 0, 0, 0));
        Check.yes("3: cut to 380", x.end(380));
        Check.same("2: 400 are not", 400, x.feed(0, 0, 0, 0, 0));
    }

    private static boolean fillTo381(PlaneProof x) {
        while (x.feed(0, 0, 0, 0, 0) != 400) {
            continue;
        }
        return x.end(381);
    }

    private static void feedOrder() {
        PlaneProof x = new PlaneProof();
        // "or a" "    " " b  " "   -" " c ;"
        Check.same("2: five numbers", 20, x.feed(0x6f722061, 0x20202020, 0x20622020, 0x2020202d, 0x2063203b));
        Check.same("2: one axiom", 1, x.claim());
        Check.same("2: its V", 3, x.lits(0, false));
        Check.same("2: its - V", 4, x.lits(0, true));
        // A highest byte above 127 stays one byte of its own.
        x.feed(0x6f722061, 0x3bff0000, 0, 0, 0);
        Check.fails("2: byte 255 is no sign", IllegalArgumentException.class, x::claim);
        Check.same("2: and stands at 5", 5, x.fault());
    }

    private static void endCuts() {
        PlaneProof x = new PlaneProof();
        Check.yes("3: none of none", x.end(0));
        Check.no("3: one of none", x.end(1));
        x.feed(0x6f722061, 0x3b6f7220, 0x623b2020, 0, 0);
        Check.no("3: below 0", x.end(-1));
        Check.no("3: far below 0", x.end(Integer.MIN_VALUE));
        Check.no("3: more than it has", x.end(21));
        Check.no("3: far more", x.end(Integer.MAX_VALUE));
        Check.yes("3: as many as it has", x.end(20));
        Check.yes("3: fewer", x.end(10));
        Check.no("3: those behind are gone", x.end(11));
        Check.same("3: two axioms", 2, x.claim());
        x.feed(0x6f722061, 0x3b6f7220, 0x623b2020, 0, 0);
        Check.yes("3: one line alone", x.end(5));
        Check.same("2: comes behind those", 25, x.feed(0x6f722063, 0x3b202020, 0x20202020, 0x20202020, 0x20202020));
        Check.same("3: two axioms", 2, x.claim());
        Check.same("3: the second is the new one", 4, x.lits(1, false));
    }

    private static void textsUseTheTapeUp() {
        PlaneProof x = new PlaneProof();
        Check.claim(x, "or a;");
        Check.no("4: the tape is used up", x.end(1));
        Check.tape(x, "or");
        Check.fails("4: wrong", IllegalArgumentException.class, x::claim);
        Check.no("4: used up by a wrong one too", x.end(1));
        Check.proof(x, "low a;");
        Check.no("5: the tape is used up", x.end(1));
        Check.tape(x, "low");
        Check.fails("5: wrong", IllegalArgumentException.class, x::proof);
        Check.no("5: used up by a wrong one too", x.end(1));
    }
}
