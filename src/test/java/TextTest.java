/** Promises 28 to 31: proofs that are written. */
public final class TextTest {
    public static void main(String[] args) {
        trimming();
        trimmedKeepsTheOrderTold();
        trimmedIsReadAgain();
        translating();
        translatedIsReadAgain();
        aLongTranslation();
        cannotBe();
        octets();
        wrongLines();
        Check.finish("TextTest");
    }

    private static void trimmed(PlaneProof x, int line, String due) {
        Check.same("28: how many bytes", due.length(), x.trim(line));
        Check.same("28: line " + line, due, Check.written(x));
        Check.same("38: bytes written", due.length(), x.count(8));
    }

    private static void trimming() {
        PlaneProof x = Check.told("or a b;or - a b;sum 2 a 2 b least 2;",
            "low f;res 0 1 a;top f;weak 4 c;plane 4;mul 2 03;add 8 7;div 2 2;clause 10 a b;add 9 3;");
        trimmed(x, 0, "");
        trimmed(x, 3, "low f;");
        trimmed(x, 4, "res 0 1 a;");
        trimmed(x, 5, "top f;");
        trimmed(x, 6, "res 0 1 a;weak 3 c;");
        trimmed(x, 7, "res 0 1 a;plane 3;");
        trimmed(x, 8, "mul 2 3;");
        trimmed(x, 9, "res 0 1 a;plane 3;mul 2 3;add 5 4;");
        trimmed(x, 10, "div 2 2;");
        trimmed(x, 11, "div 2 2;clause 3 a b;");
        trimmed(x, 12, "low f;res 0 1 a;plane 4;mul 2 3;add 6 5;add 7 3;");
        Check.same("28: the proof stands", 13, x.count(1));
    }

    private static void trimmedKeepsTheOrderTold() {
        PlaneProof x = Check.told("or c;sum a b least 2;", "weak\t0 f-a  e - b;clause 01-d b-c a;clause 1 f e d c b a;");
        trimmed(x, 2, "weak 0 f - a e - b;");
        trimmed(x, 3, "clause 1 - d b - c a;");
        trimmed(x, 4, "clause 1 f e d c b a;");
        PlaneProof y = Check.told("or a;".repeat(12), "low a;weak 11 - b;weak 13 - f;");
        trimmed(y, 14, "weak 11 - b;weak 12 - f;");
        PlaneProof z = Check.told("sum a least 2;", "clause 0;");
        trimmed(z, 1, "clause 0;");
    }

    private static void trimmedIsReadAgain() {
        PlaneProof x = Check.told("or a b;or - a b;or - b;", "low c;res 0 1 a;weak 4 d;res 4 2 b;");
        x.trim(6);
        String text = Check.written(x);
        Check.same("28: read again", 2, Check.proof(x, text));
        Check.same("28: it refutes still", 4, x.refutes());
    }

    private static void translated(PlaneProof x, int line, int lines, String due) {
        Check.same("30: how many lines", lines, x.translated(line));
        Check.same("29: how many bytes", due.length(), x.translate(line));
        Check.same("29: line " + line, due, Check.written(x));
        Check.same("38: bytes written", due.length(), x.count(8));
    }

    private static void translating() {
        PlaneProof x = Check.told("or a - b c;or - a - b d - e;or f;or - f;",
            "weak 2 - a b;res 0 1 a;res 2 3 f;weak 5 f - a;");
        translated(x, 0, 1, "plane 0;");
        translated(x, 3, 1, "plane 3;");
        translated(x, 4, 5, "plane 2;top a;add 4 5;low b;add 6 7;");
        // - b stands in both: c, d, - e are brought to two.
        translated(x, 5, 10, "plane 0;plane 1;add 4 5;low c;add 6 7;low d;add 8 9;top e;add 10 11;div 12 2;");
        translated(x, 6, 3, "plane 2;plane 3;add 4 5;");
        translated(x, 7, 14,
            "plane 0;plane 1;add 4 5;low c;add 6 7;low d;add 8 9;top e;add 10 11;div 12 2;low f;add 13 14;top a;add 15 16;");
        PlaneProof z = Check.told("or - a e f;or b - f e;", "res 0 1 f;");
        translated(z, 2, 8, "plane 0;plane 1;add 2 3;top a;add 4 5;low b;add 6 7;div 8 2;");
        PlaneProof y = Check.told("or a b;or a - b;or - a b;or - a - b;", "res 0 1 b;res 2 3 b;res 4 5 a;");
        translated(y, 6, 9, "plane 0;plane 1;plane 2;plane 3;add 4 5;div 8 2;add 6 7;div 10 2;add 9 11;");
    }

    private static void translatedIsReadAgain() {
        PlaneProof x = Check.told("or a - b c;or - a - b d - e;or f;", "res 0 1 a;weak 3 f - a;");
        x.translate(4);
        String text = Check.written(x);
        int last = 2 + Check.proof(x, text);
        Check.same("29: it says the same as a plane", "-1 -1 1 1 -1 1 least -2", Check.planeOf(x, last));
        PlaneProof y = Check.told("or a b;or a - b;or - a b;or - a - b;", "res 0 1 b;res 2 3 b;res 4 5 a;");
        y.translate(6);
        Check.proof(y, Check.written(y));
        Check.same("29: it refutes as planes", 12, y.refutes());
    }

    /** More bytes and lines than a proof may have: it is written whole all the same. */
    private static void aLongTranslation() {
        String claim = "or a b c d e;or - a b;or - b a;";
        PlaneProof x = new PlaneProof();
        Check.claim(x, claim);
        StringBuilder proof = new StringBuilder("res 0 1 a;");
        for (int k = 3; k < 39; k += 2) {
            proof.append("weak").append(k).append(" a;res").append(k + 1).append(" 1a;");
        }
        int steps = Check.proof(x, proof.toString());
        int line = 2 + steps;
        // The first res and each later one have b in common, and c, d, e besides.
        int due = 2 + 8 + (steps - 1) / 2 * (2 + 8);
        Check.same("30: many lines", due, x.translated(line));
        int bytes = x.translate(line);
        String text = Check.written(x);
        Check.same("29: bytes", bytes, text.length());
        Check.same("29: as many lines", (long) due, text.chars().filter(c -> c == ';').count());
        int last = 3 + due - 1;
        Check.yes("29: its last line", text.endsWith(";div " + (last - 1) + " 2;"));
        Check.yes("29: numbers of three digits", last > 150);
        Oracle oracle = new Oracle();
        oracle.claim(claim);
        oracle.proof(proof.toString());
        Check.same("29: all of it", String.join("", oracle.asPlanes(line)), text);
        Check.yes("29: short of nothing", x.octet(bytes - 1) == ';' && x.octet(bytes) == -1);
    }

    private static void cannotBe() {
        PlaneProof x = Check.told("or a b;sum a b least 1;", "clause 1 a b;weak 2 c;plane 0;low a;weak 0 c;");
        x.trim(6);
        for (int line : new int[] {1, 2, 3, 4, 5}) {
            Check.fails("29: line " + line, IllegalStateException.class, () -> x.translate(line));
            Check.fails("30: line " + line, IllegalStateException.class, () -> x.translated(line));
        }
        Check.same("31: what was written stands", "weak 0 c;", Check.written(x));
        translated(x, 6, 3, "plane 0;low c;add 2 3;");
    }

    private static void octets() {
        PlaneProof x = Check.told("or a;or - a;", "res 0 1 a;");
        Check.same("31: nothing yet", -1, x.octet(0));
        x.trim(2);
        Check.same("31: the first", (int) 'r', x.octet(0));
        Check.same("31: the last", (int) ';', x.octet(9));
        Check.same("31: behind it", -1, x.octet(10));
        Check.same("31: below 0", -1, x.octet(-1));
        Check.same("31: least", -1, x.octet(Integer.MIN_VALUE));
        Check.same("31: greatest", -1, x.octet(Integer.MAX_VALUE));
        x.translated(2);
        Check.same("31: counting writes nothing", "res 0 1 a;", Check.written(x));
        x.translate(2);
        Check.same("31: the latest", "plane 0;plane 1;add 2 3;", Check.written(x));
        Check.claim(x, "or b;");
        Check.proof(x, "low b;");
        Check.same("31: still, behind other texts", "plane 0;plane 1;add 2 3;", Check.written(x));
        x.trim(0);
        Check.same("31: an empty one", -1, x.octet(0));
    }

    private static void wrongLines() {
        PlaneProof x = Check.told("or a;", "weak 0 b;");
        x.trim(1);
        for (int line : new int[] {-1, 2, Integer.MIN_VALUE, Integer.MAX_VALUE}) {
            Class<IndexOutOfBoundsException> due = IndexOutOfBoundsException.class;
            Check.fails("28: " + line, due, () -> x.trim(line));
            Check.fails("29: " + line, due, () -> x.translate(line));
            Check.fails("30: " + line, due, () -> x.translated(line));
        }
        Check.same("31: nothing changed", "weak 0 b;", Check.written(x));
    }
}
