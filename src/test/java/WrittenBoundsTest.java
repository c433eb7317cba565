/** The boundary cases of what the document says of texts that are written, and promises 28 to 31. */
public final class WrittenBoundsTest {
    public static void main(String[] args) {
        trimmed();
        trimmedNumbers();
        putIntoPlanes();
        ofWeak();
        ofRes();
        asAText();
        longerThanATape();
        trimmedLongerThanATape();
        cannotBe();
        octets();
        Check.finish("WrittenBoundsTest");
    }

    private static void trims(PlaneProof x, int line, String due) {
        Check.same("bytes of line " + line, due.length(), x.trim(line));
        Check.same("text of line " + line, due, Check.written(x));
        Check.same("bytes written", due.length(), x.count(8));
    }

    private static void translates(PlaneProof x, int line, int lines, String due) {
        Check.same("lines of line " + line, lines, x.translated(line));
        Check.same("bytes of line " + line, due.length(), x.translate(line));
        Check.same("text of line " + line, due, Check.written(x));
        Check.same("bytes written", due.length(), x.count(8));
    }

    private static void trimmed() {
        Check.says("TRIMMED: all LINES of THE PROOF that a LINE NEEDS, as a text, one behind another, numbered anew.");
        PlaneProof x = Check.told("or a b;or - a b;sum 4 a 2 b least 2;",
            "low f;res 0 1 a;top e;weak 4 c - d;plane 4;mul 2 9;div 2 2;add 9 8;clause 9 b - c a;clause 2 a b;low a;");
        trims(x, 0, "");
        trims(x, 2, "");
        trims(x, 3, "low f;");
        trims(x, 4, "res 0 1 a;");
        trims(x, 5, "top e;");
        trims(x, 6, "res 0 1 a;weak 3 c - d;");
        trims(x, 7, "res 0 1 a;plane 3;");
        trims(x, 8, "mul 2 9;");
        trims(x, 9, "div 2 2;");
        trims(x, 10, "mul 2 9;div 2 2;add 4 3;");
        trims(x, 11, "div 2 2;clause 3 b - c a;");
        trims(x, 12, "clause 2 a b;");
        trims(x, 13, "low a;");
        Check.same("what is written is no new proof", 14, x.count(1));
    }

    private static void trimmedNumbers() {
        // An axiom keeps its number, though others are not needed.
        PlaneProof x = Check.told("or a;".repeat(15) + "or - a;", "low b;".repeat(10) + "res 14 15 a;low c;plane 26;add 28 27;");
        trims(x, 29, "res 14 15 a;low c;plane 16;add 18 17;");
        PlaneProof y = Check.told("", "low a;low b;low c;add 2 0;add 3 3;");
        trims(y, 3, "low a;low c;add 1 0;");
        trims(y, 4, "low a;low c;add 1 0;add 2 2;");
        StringBuilder all = new StringBuilder("low a;");
        for (int k = 16; k < 55; k++) {
            all.append("mul ").append(k).append(" 1;");
        }
        PlaneProof most = Check.told("or a;".repeat(16), all.toString());
        trims(most, 55, all.toString());
    }

    private static void putIntoPlanes() {
        Check.says("PUT INTO PLANES: of a CLAUSE that NEEDS AXIOMS, res and weak alone: LINE by LINE that it NEEDS, in order: "
            + "of an AXIOM plane L;");
        PlaneProof x = Check.told("or a;sum a least 0;or - a;source b;step c from b;sink c;", "res 0 2 a;weak 3 a;low a;res 3 4 b;");
        translates(x, 0, 1, "plane 0;");
        translates(x, 5, 1, "plane 5;");
        translates(x, 6, 3, "plane 0;plane 2;add 6 7;");
        translates(x, 9, 3, "plane 3;plane 4;add 6 7;");
    }

    private static void ofWeak() {
        Check.says("of weak, LIT by LIT as told, low V or top V, add (what is there, that);");
        PlaneProof x = Check.told("or c;", "weak 0 f - a;weak 1 - b;weak 0 - f - e - d b a;");
        translates(x, 1, 5, "plane 0;low f;add 1 2;top a;add 3 4;");
        translates(x, 2, 7, "plane 0;low f;add 1 2;top a;add 3 4;top b;add 5 6;");
        translates(x, 3, 11, "plane 0;top f;add 1 2;top e;add 3 4;top d;add 5 6;low b;add 7 8;low a;add 9 10;");
    }

    private static void ofRes() {
        Check.says("of res: add (the first, the second); then, if both have a LIT in common, LIT by LIT of the others "
            + "(by VARIABLES) low V or top V, add (what is there, that), and div by 2.");
        PlaneProof none = Check.told("or a b;or - a c;", "res 0 1 a;");
        translates(none, 2, 3, "plane 0;plane 1;add 2 3;");
        PlaneProof alone = Check.told("or a - b;or - a - b;", "res 0 1 a;");
        translates(alone, 2, 4, "plane 0;plane 1;add 2 3;div 4 2;");
        PlaneProof others = Check.told("or f - b d;or - f c - a - b;", "res 0 1 f;");
        translates(others, 2, 10, "plane 0;plane 1;add 2 3;top a;add 4 5;low c;add 6 7;low d;add 8 9;div 10 2;");
        PlaneProof empty = Check.told("or e;or - e;", "res 0 1 e;");
        translates(empty, 2, 3, "plane 0;plane 1;add 2 3;");
        // The first and the second as told, whatever their order.
        PlaneProof order = Check.told("or - a b;or a b;", "res 1 0 a;");
        translates(order, 2, 4, "plane 0;plane 1;add 3 2;div 4 2;");
        PlaneProof five = Check.told("or a b c d e f;or - a b c d e f;", "res 0 1 a;");
        translates(five, 2, 4, "plane 0;plane 1;add 2 3;div 4 2;");
        PlaneProof widest = Check.told("or a b - c - d f;or - a e f;", "res 0 1 a;");
        translates(widest, 2, 12,
            "plane 0;plane 1;add 2 3;low b;add 4 5;top c;add 6 7;top d;add 8 9;low e;add 10 11;div 12 2;");
    }

    private static void asAText() {
        Check.says("Written as a text: words, numbers, letters and - with one blank between, ; right behind each LINE, nothing else.");
        PlaneProof x = Check.told("or a;sum a least 1;or - a;", "\tweak\n00-b\t- c ;  clause 01-f a;res00 02a ;mul 01 02;\n");
        trims(x, 3, "weak 0 - b - c;");
        trims(x, 4, "clause 1 - f a;");
        trims(x, 5, "res 0 2 a;");
        trims(x, 6, "mul 1 2;");
        translates(x, 3, 5, "plane 0;top b;add 3 4;top c;add 5 6;");
    }

    /** A text that a tape could not hold, with numbers up to 230, is written whole all the same. */
    private static void longerThanATape() {
        StringBuilder proof = new StringBuilder("res0 1a;");
        StringBuilder due = new StringBuilder("plane 0;plane 1;add 3 4;");
        int next = halved(due, 6);
        for (int k = 3; k < 39; k += 2) {
            proof.append("weak").append(k).append(" a;res").append(k + 1).append(" 1a;");
            due.append("low a;add ").append(next - 1).append(' ').append(next).append(';');
            due.append("add ").append(next + 1).append(" 4;");
            next = halved(due, next + 3);
        }
        Check.same("the last number", 3 + 2 + 10 + 18 * 12, next);
        String claim = "or a b c d e f;or - a b;or a;";
        Check.same("lines", next - 3, Check.told(claim, proof.toString()).translated(39));
        inParts(claim, proof.toString(), true, due.toString());
    }

    /** Each part is asked of an object of its own, as one answers no more than 512 calls. */
    private static void inParts(String claim, String proof, boolean planes, String due) {
        Check.yes("more than a tape holds", due.length() > 400);
        StringBuilder got = new StringBuilder();
        for (int at = 0; at < due.length(); at += 400) {
            PlaneProof x = Check.told(claim, proof);
            int last = x.count(1) - 1;
            Check.same("bytes", due.length(), planes ? x.translate(last) : x.trim(last));
            Check.same("bytes written", due.length(), x.count(8));
            Check.same("none behind the last", -1, x.octet(due.length()));
            for (int k = at; k < due.length() && k < at + 400; k++) {
                got.append((char) x.octet(k));
            }
            Check.same("a shorter one behind it", 0, x.trim(0));
            Check.same("has none of the longer one's", -1, x.octet(0));
        }
        Check.same("all of it", due, got.toString());
    }

    /** With b in common: c to f are brought to two; next is the number of the next line. */
    private static int halved(StringBuilder due, int next) {
        int now = next;
        for (char v = 'c'; v <= 'f'; v++) {
            due.append("low ").append(v).append(";add ").append(now - 1).append(' ').append(now).append(';');
            now += 2;
        }
        due.append("div ").append(now - 1).append(" 2;");
        return now + 1;
    }

    /** Told without blanks a proof of 400 bytes is longer where it is written. */
    private static void trimmedLongerThanATape() {
        StringBuilder proof = new StringBuilder("low a;");
        StringBuilder due = new StringBuilder("low a;");
        for (int k = 1; k <= 28; k += 3) {
            proof.append("clause0-a-b-c-d-e-f;plane").append(k + 1).append(";add").append(k).append(' ').append(k + 2).append(';');
            due.append("clause 0 - a - b - c - d - e - f;plane ").append(k + 1).append(';');
            due.append("add ").append(k).append(' ').append(k + 2).append(';');
        }
        Check.yes("told by at most 400", proof.length() <= 400);
        inParts("sum a least 2;", proof.toString(), false, due.toString());
    }

    private static void cannot(PlaneProof x, int line) {
        Check.fails("translate " + line, IllegalStateException.class, () -> x.translate(line));
        Check.fails("translated " + line, IllegalStateException.class, () -> x.translated(line));
    }

    private static void cannotBe() {
        Check.says("PUT INTO PLANES: how many bytes. IllegalStateException: it cannot be.");
        PlaneProof x = Check.told("or a b;sum a b least 1;or - a b;",
            "low a;top a;plane 0;add 1 1;mul 1 1;div 6 2;clause 1 a b;weak 9 c;res 9 2 a;res 0 2 a;");
        x.trim(12);
        cannot(x, 1);
        for (int line = 3; line <= 11; line++) {
            cannot(x, line);
        }
        Check.same("what was written stays", "res 0 2 a;", Check.written(x));
        translates(x, 12, 4, "plane 0;plane 2;add 3 4;div 5 2;");
    }

    private static void octets() {
        Check.says("Byte k of what was written latest (trim(), translate()); NONE without.");
        PlaneProof x = Check.told("or a;or - a;", "res 0 1 a;");
        Check.same("nothing written", -1, x.octet(0));
        Check.same("nothing written, below 0", -1, x.octet(-1));
        x.trim(2);
        Check.same("the first", (int) 'r', x.octet(0));
        Check.same("a blank", 32, x.octet(3));
        Check.same("the last", (int) ';', x.octet(9));
        Check.same("behind it", -1, x.octet(10));
        for (int k : new int[] {-1, 399, 400, Integer.MIN_VALUE, Integer.MAX_VALUE}) {
            Check.same("byte " + k, -1, x.octet(k));
        }
        x.translate(2);
        Check.same("the latest", "plane 0;plane 1;add 2 3;", Check.written(x));
        x.trim(0);
        Check.same("an empty one is the latest", -1, x.octet(0));
        x.trim(2);
        Check.proof(x, "");
        Check.same("behind another proof", "res 0 1 a;", Check.written(x));
        Check.claim(x, "");
        Check.same("behind another claim", "res 0 1 a;", Check.written(x));
    }
}
