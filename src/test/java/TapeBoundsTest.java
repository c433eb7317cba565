/** The boundary cases of promises 1 to 6: a new object, its tape, and reading it. */
public final class TapeBoundsTest {
    private static final int BLANKS = 0x20202020;

    public static void main(String[] args) {
        aNewObject();
        bytesOfEachNumber();
        highBytes();
        howMany();
        noMoreThan400();
        firstBytesAlone();
        nothingHappens();
        claims();
        claimsForgetTheOneBefore();
        proofs();
        faults();
        Check.finish("TapeBoundsTest");
    }

    private static int feedBlanks(PlaneProof x) {
        return x.feed(BLANKS, BLANKS, BLANKS, BLANKS, BLANKS);
    }

    private static void aNewObject() {
        Check.says("No AXIOMS, no PROOF.");
        PlaneProof x = new PlaneProof();
        int[] due = {0, 0, 0, 0, 0, 0, 0, 0, 0, 64, 0};
        for (int what = 0; what < due.length; what++) {
            Check.same("count " + what, due[what], x.count(what));
        }
        Check.same("no fault", -1, x.fault());
        Check.same("no nodes", 0, x.node(0));
        Check.same("no sources", 0, x.node(1));
        Check.same("no sink", -1, x.node(2));
        Check.same("no least pebbles", -1, x.pebbles());
        Check.same("no least width", -1, x.leastWidth());
        Check.same("no core", -1, x.core(false));
        Check.same("nothing refutes", -1, x.refutes());
        Check.same("nothing written", -1, x.octet(0));
        Check.yes("an empty tape", x.end(0));
        Check.no("no byte on it", x.end(1));
        Check.same("another object", 1, Check.claim(new PlaneProof(), "or a;"));
        Check.same("is not this one", 0, x.count(0));
    }

    private static void bytesOfEachNumber() {
        Check.says("Twenty bytes come behind the TAPE, of each number the highest first");
        String text = "or a - b c - d e- f;";
        Check.same("twenty of them", 20, text.length());
        // Each of the twenty bytes, in turn, is one that is wrong.
        for (int at = 0; at < 20; at++) {
            byte[] bytes = text.getBytes(java.nio.charset.StandardCharsets.ISO_8859_1);
            bytes[at] = '!';
            int[] five = new int[5];
            for (int k = 0; k < 20; k++) {
                five[k / 4] = five[k / 4] << 8 | bytes[k];
            }
            PlaneProof x = new PlaneProof();
            Check.same("twenty bytes", 20, x.feed(five[0], five[1], five[2], five[3], five[4]));
            Check.fails("byte " + at, IllegalArgumentException.class, x::claim);
            // "o!" is a word that is wrong at its first byte.
            Check.same("its place", at == 1 ? 0 : at, x.fault());
        }
        PlaneProof y = new PlaneProof();
        y.feed(0x6f722061, 0x3b202020, BLANKS, BLANKS, BLANKS);
        Check.same("behind those that are there", 40, y.feed(0x6f722062, 0x3b202020, BLANKS, BLANKS, BLANKS));
        Check.same("two axioms", 2, y.claim());
        Check.same("the first", 1, y.lits(0, false));
        Check.same("the second", 2, y.lits(1, false));
    }

    private static void highBytes() {
        for (int number : new int[] {-1, Integer.MIN_VALUE, 0x80000000 | 0x6f7220, Integer.MAX_VALUE, 0}) {
            PlaneProof x = new PlaneProof();
            Check.same("any number", 20, x.feed(number, number, number, number, number));
            Check.fails("is no text", IllegalArgumentException.class, x::claim);
            Check.same("from its first byte on", 0, x.fault());
        }
        PlaneProof y = new PlaneProof();
        y.feed(0x6f722061, 0x3bff2020, BLANKS, BLANKS, BLANKS);
        Check.fails("a byte above 127", IllegalArgumentException.class, y::claim);
        Check.same("is one byte", 5, y.fault());
    }

    private static void howMany() {
        Check.says("how many it has; NONE, and none come, if it would have more than 400.");
        PlaneProof x = new PlaneProof();
        for (int times = 1; times <= 20; times++) {
            Check.same("feed " + times, 20 * times, feedBlanks(x));
        }
        Check.same("420", -1, x.feed(0, 0, 0, 0, 0));
        Check.same("420 again", -1, x.feed(0, 0, 0, 0, 0));
        Check.no("none came", x.end(401));
        Check.yes("400 are there", x.end(400));
        Check.same("and are blanks still", 0, x.claim());
        Check.same("then there are none", 20, feedBlanks(x));
    }

    private static void noMoreThan400() {
        for (int left = 379; left <= 400; left++) {
            PlaneProof x = new PlaneProof();
            for (int times = 0; times < 20; times++) {
                feedBlanks(x);
            }
            x.end(left);
            Check.same("behind " + left, left <= 380 ? left + 20 : -1, feedBlanks(x));
            Check.no("no more than due", x.end(left <= 380 ? left + 21 : left + 1));
            Check.yes("no fewer than due", x.end(left <= 380 ? left + 20 : left));
        }
    }

    private static void firstBytesAlone() {
        Check.says("The TAPE has its first n bytes alone: true;");
        String text = "or a;or b;or c;or d;";
        for (int n = 0; n <= 20; n++) {
            PlaneProof x = new PlaneProof();
            Check.tape(x, text);
            Check.yes("first " + n, x.end(n));
            Check.no("no more", x.end(n + 1));
            boolean whole = n % 5 == 0;
            Check.same("the text of " + n, whole ? "" + n / 5 : "IllegalArgumentException", Check.outcome(x::claim));
        }
        PlaneProof y = new PlaneProof();
        Check.tape(y, text);
        Check.yes("to 10", y.end(10));
        Check.yes("to 10 again", y.end(10));
        Check.yes("to 5", y.end(5));
        Check.same("more comes behind these", 25, y.feed(0x6f722066, 0x3b202020, BLANKS, BLANKS, BLANKS));
        Check.same("two axioms", 2, y.claim());
        Check.same("those cut off are gone", 32, y.lits(1, false));
        PlaneProof full = new PlaneProof();
        Check.tape(full, " ".repeat(400));
        Check.yes("to 0", full.end(0));
        Check.same("then it is empty", 20, feedBlanks(full));
    }

    private static void nothingHappens() {
        Check.says("false, and nothing happens, if it has fewer, or n is below 0.");
        PlaneProof x = new PlaneProof();
        Check.no("one of none", x.end(1));
        Check.no("-1 of none", x.end(-1));
        Check.tape(x, "or a;or b;");
        for (int n : new int[] {11, 12, 400, Integer.MAX_VALUE, -1, -10, Integer.MIN_VALUE}) {
            Check.no("first " + n, x.end(n));
        }
        Check.same("the text is whole", 2, x.claim());
    }

    private static void claims() {
        Check.says("Uses the TAPE up: it is THE CLAIM (in place of the one before; THE PROOF is empty then): "
            + "how many AXIOMS. IllegalArgumentException: the text is wrong.");
        PlaneProof x = Check.told("source a;step b from a;sink b;", "res 0 1 a;low c;");
        Check.no("the tape is empty", x.end(1));
        Check.same("another claim", 1, Check.claim(x, "or c;"));
        Check.no("the tape is empty again", x.end(1));
        Check.same("lines in all", 1, x.count(1));
        Check.same("the new axiom", 4, x.lits(0, false));
        Check.same("no nodes any more", 0, x.node(0));
        Check.same("no sink any more", -1, x.node(2));
        Check.same("its models", 32, x.model(-1));
        Check.same("no core", -1, x.core(true));
        Check.same("none within", 1, x.within(6, 0));
        Check.proof(x, "low a;");
        Check.same("an empty tape", 0, x.claim());
        Check.same("no lines", 0, x.count(1));
        Check.tape(x, "or a;or");
        Check.fails("a wrong one", IllegalArgumentException.class, x::claim);
        Check.no("uses the tape up too", x.end(1));
        Check.same("an empty one behind it", 0, x.claim());
        Check.same("the same claim again", 16, Check.claim(x, "or a;".repeat(16)));
        Check.proof(x, "low a;");
        Check.claim(x, "or a;".repeat(16));
        Check.same("its proof is empty then too", 16, x.count(1));
    }

    private static String withinAll(PlaneProof x) {
        StringBuilder text = new StringBuilder();
        for (int width = 0; width <= 6; width++) {
            text.append(x.within(width, 0)).append(x.within(width, 1)).append(x.within(width, 2)).append(' ');
        }
        return text.append(x.core(true)).append(' ').append(x.leastWidth()).append(' ').append(x.pebbles()).toString();
    }

    private static void claimsForgetTheOneBefore() {
        PlaneProof x = Check.claimed("source a;sink a;");
        Check.same("within each width", "311 311 311 311 311 311 311 3 0 1", withinAll(x));
        Check.claim(x, "or b;");
        Check.same("of another claim", "10-1 10-1 10-1 10-1 10-1 10-1 10-1 -1 -1 -1", withinAll(x));
        Check.claim(x, "or a b;or - b;or - a;");
        Check.same("of a third one", "30-1 622 622 622 622 622 622 7 1 -1", withinAll(x));
        x.claim();
        Check.same("of an empty one", "00-1 00-1 00-1 00-1 00-1 00-1 00-1 -1 -1 -1", withinAll(x));
    }

    private static void proofs() {
        Check.says("Uses the TAPE up: it is THE PROOF (in place of the one before): how many LINES it has. "
            + "IllegalArgumentException: the text is wrong.");
        PlaneProof x = Check.told("or a;or - a;", "res 0 1 a;low a;low b;");
        Check.no("the tape is empty", x.end(1));
        Check.same("another proof", 1, Check.proof(x, "low c;"));
        Check.no("the tape is empty again", x.end(1));
        Check.same("lines in all", 3, x.count(1));
        Check.same("nothing refutes any more", -1, x.refutes());
        Check.same("none comes from an axiom any more", 0, x.uses(0));
        Check.same("the axioms stay", 2, x.count(0));
        Check.tape(x, "low a;low");
        Check.fails("a wrong one", IllegalArgumentException.class, x::proof);
        Check.no("uses the tape up too", x.end(1));
        Check.same("the one before stands", 3, x.count(1));
        Check.same("an empty tape", 0, x.proof());
        Check.same("leaves the axioms", 2, x.count(1));
        Check.same("without a claim", 2, Check.proof(new PlaneProof(), "low a;mul 0 9;"));
    }

    private static void faults() {
        Check.says("THE FAULT of the latest claim(), proof(); NONE without one, and ahead of any.");
        PlaneProof x = new PlaneProof();
        Check.same("ahead of any", -1, x.fault());
        Check.tape(x, "or");
        Check.same("a tape is not read yet", -1, x.fault());
        Check.fails("a wrong claim", IllegalArgumentException.class, x::claim);
        Check.same("of the claim", 2, x.fault());
        Check.same("asked again", 2, x.fault());
        Check.tape(x, "low a;or");
        Check.same("still of the claim", 2, x.fault());
        Check.fails("a wrong proof", IllegalArgumentException.class, x::proof);
        Check.same("of the proof", 6, x.fault());
        Check.same("a right claim", 1, Check.claim(x, "or a;"));
        Check.same("without one", -1, x.fault());
        Check.tape(x, "!");
        Check.fails("a wrong claim", IllegalArgumentException.class, x::claim);
        Check.same("the very first byte", 0, x.fault());
        Check.same("a right proof", 1, Check.proof(x, "low a;"));
        Check.same("without one", -1, x.fault());
        Check.tape(x, " ".repeat(398) + "or");
        Check.fails("a wrong claim", IllegalArgumentException.class, x::claim);
        Check.same("the greatest length", 400, x.fault());
    }
}
