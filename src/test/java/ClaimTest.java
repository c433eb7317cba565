/** Promises 4 and 6: what a claim may say, and its first wrong byte. */
public final class ClaimTest {
    public static void main(String[] args) {
        rightTexts();
        wrongClauses();
        wrongSums();
        wrongGraphs();
        tooMany();
        saying();
        aWrongOneChangesNothing();
        aNewOneTakesThePlace();
        Check.finish("ClaimTest");
    }

    private static void right(int axioms, String text) {
        PlaneProof x = new PlaneProof();
        Check.tape(x, text);
        Check.same("4: " + text, String.valueOf(axioms), Check.outcome(x::claim));
        Check.same("6: " + text, -1, x.fault());
    }

    private static void wrong(int fault, String text) {
        PlaneProof x = new PlaneProof();
        Check.tape(x, text);
        Check.same("4: " + text, "IllegalArgumentException", Check.outcome(x::claim));
        Check.same("6: " + text, fault, x.fault());
    }

    private static void rightTexts() {
        right(0, "");
        right(0, " \t\n ");
        right(1, "or a;");
        right(1, "or-a-b c;");
        right(1, "\n or\ta\n-\nb ; ");
        right(1, "or a b c d e f;");
        right(1, "sum a least 0;");
        right(1, "sum-99a 99b 1c least-99;");
        right(1, "sum 01 a least 00;");
        right(1, "sum a - b 2 c - 2 d e f least - 0;");
        right(3, "source a;source b;step c from b a;");
        right(4, "source a;sink a;source b;step c from b;");
        right(2, "or a b;source a;");
        right(6, "source f;step e from f;step d from e f;step c from f d;step b from c;step a from b c d e f;");
    }

    private static void wrongClauses() {
        wrong(0, "o");
        wrong(0, "o ");
        wrong(0, "orr a;");
        wrong(0, "Or a;");
        wrong(0, ";");
        wrong(0, "a;");
        wrong(0, "1;");
        wrong(0, "res 0 1 a;");
        wrong(2, "  ora;");
        wrong(2, "or");
        wrong(3, "or ");
        wrong(2, "or;");
        wrong(3, "or g;");
        wrong(3, "or A;");
        wrong(3, "or ab;");
        wrong(3, "or 1;");
        wrong(4, "or -");
        wrong(6, "or -  ");
        wrong(4, "or --a;");
        wrong(4, "or -;");
        wrong(4, "or a");
        wrong(5, "or a ");
        wrong(4, "or a, b;");
        wrong(5, "or a a;");
        wrong(7, "or a - a;");
        wrong(8, "or - a -a;");
        wrong(15, "or a b c d e f a;");
        wrong(5, "or a or b;");
        wrong(5, "or a 1;");
        wrong(5, "or a;;");
        wrong(6, "or a; x");
        wrong(5, "or a;\0");
        wrong(4, "or a\r;");
        wrong(5, "or a;" + (char) 160);
    }

    private static void wrongSums() {
        wrong(3, "sum");
        wrong(3, "sum;");
        wrong(4, "sum least 1;");
        wrong(6, "sum - least 1;");
        wrong(4, "sum 0 a least 1;");
        wrong(4, "sum 0");
        wrong(4, "sum 00 a least 1;");
        wrong(4, "sum 100 a least 1;");
        wrong(4, "sum 001 a least 1;");
        wrong(5, "sum 9");
        wrong(5, "sum 9;");
        wrong(6, "sum 2 3 a least 1;");
        wrong(6, "sum 2 - a least 1;");
        wrong(5, "sum --a least 1;");
        wrong(6, "sum 2 g least 1;");
        wrong(6, "sum a a least 1;");
        wrong(10, "sum a b - a least 1;");
        wrong(16, "sum a b c d e f a;");
        wrong(18, "sum a b c d e f 2 a least 1;");
        wrong(5, "sum a;");
        wrong(5, "sum a");
        wrong(6, "sum a leas 1;");
        wrong(6, "sum a leastt 1;");
        wrong(6, "sum a leas");
        wrong(6, "sum a or b;");
        wrong(11, "sum a least");
        wrong(11, "sum a least;");
        wrong(12, "sum a least 100;");
        wrong(12, "sum a least a;");
        wrong(13, "sum a least --1;");
        wrong(13, "sum a least -");
        wrong(13, "sum a least 1");
        wrong(14, "sum a least 1 b;");
        wrong(14, "sum a least 1 1;");
    }

    private static void wrongGraphs() {
        wrong(6, "source");
        wrong(0, "sourc a;");
        wrong(7, "source g;");
        wrong(7, "source - a;");
        wrong(9, "source a b;");
        wrong(16, "source a;source a;");
        wrong(12, "step a from a;");
        wrong(12, "step a from b;");
        wrong(14, "source a;step a from a;");
        wrong(14, "source a;step g from a;");
        wrong(16, "source a;step b a;");
        wrong(16, "source a;step b fro a;");
        wrong(15, "source a;step b;");
        wrong(20, "source a;step b from;");
        wrong(20, "source a;step b from");
        wrong(21, "source a;step b from b;");
        wrong(21, "source a;step b from c;");
        wrong(21, "source a;step b from - a;");
        wrong(23, "source a;step b from a a;");
        wrong(23, "source a;step b from a c;");
        wrong(23, "source a;step b from a 1;");
        wrong(22, "source a;step b from a");
        wrong(5, "sink a;");
        wrong(14, "source a;sink b;");
        wrong(13, "source a;sink;");
        wrong(14, "source a;sink - a;");
        wrong(16, "source a;sink a;sink a;");
        wrong(16, "source a;sink a;sink");
        wrong(12, "or a b;sink a;");
        wrong(19, "sum a least 0;sink a;");
    }

    private static void tooMany() {
        String sixteen = "or a;".repeat(16);
        right(16, sixteen);
        right(16, sixteen + "  ");
        wrong(80, sixteen + "or a;");
        wrong(81, sixteen + " or a;");
        wrong(80, sixteen + "o");
        wrong(80, sixteen + ";");
        right(1, " ".repeat(395) + "or a;");
        wrong(400, " ".repeat(396) + "or a");
    }

    private static void saying() {
        PlaneProof x = new PlaneProof();
        Check.same("4: axioms", 5, Check.claim(x, "or c - a;sum - 3 b 99 f least - 7;source a;step b from a;sink b;"));
        Check.same("4: or, V", 4, x.lits(0, false));
        Check.same("4: or, - V", 1, x.lits(0, true));
        Check.same("4: sum of b", -3, x.plane(1, 1));
        Check.same("4: sum of f", 99, x.plane(1, 5));
        Check.same("4: sum of a", 0, x.plane(1, 0));
        Check.same("4: sum's bound", -7, x.plane(1, -1));
        Check.same("4: source", 1, x.lits(2, false));
        Check.same("4: source has no - V", 0, x.lits(2, true));
        Check.same("4: step, V", 2, x.lits(3, false));
        Check.same("4: step, - V", 1, x.lits(3, true));
        Check.same("4: sink, V", 0, x.lits(4, false));
        Check.same("4: sink, - V", 2, x.lits(4, true));
        Check.same("4: a term without a number", 1, sumOf("sum a least 1;", 0));
        Check.same("4: and with - alone", -1, sumOf("sum - a least 1;", 0));
    }

    private static int sumOf(String text, int variable) {
        PlaneProof x = new PlaneProof();
        Check.claim(x, text);
        return x.plane(0, variable);
    }

    private static void aWrongOneChangesNothing() {
        PlaneProof x = Check.told("source a;step b from a;sink b;", "res 0 1 a;");
        x.trim(3);
        Check.tape(x, "source c;or a b;or");
        Check.fails("4: wrong", IllegalArgumentException.class, x::claim);
        Check.same("6: its fault", 18, x.fault());
        Check.same("4: the claim stands", 3, x.count(0));
        Check.same("4: the proof stands", 4, x.count(1));
        Check.same("4: the nodes stand", 3, x.node(0));
        Check.same("4: the sink stands", 1, x.node(2));
        Check.same("4: what was written stands", "res 0 1 a;", Check.written(x));
        Check.same("4: the next one starts anew", 0, x.claim());
        Check.same("6: no fault now", -1, x.fault());
    }

    private static void aNewOneTakesThePlace() {
        PlaneProof x = Check.told("source a;sink a;", "res 0 1 a;");
        Check.same("4: refuted", 2, x.refutes());
        Check.same("4: its width", 0, x.leastWidth());
        Check.same("4: its core", 3, x.core(true));
        x.trim(2);
        Check.same("4: another one", 1, Check.claim(x, "or b;"));
        Check.same("4: the proof is empty", 1, x.count(1));
        Check.same("4: no nodes", 0, x.node(0));
        Check.same("4: no sink", -1, x.node(2));
        Check.same("4: no width", -1, x.leastWidth());
        Check.same("4: no core", -1, x.core(true));
        Check.same("4: models", 32, x.model(-1));
        Check.same("4: written is written", 10, x.count(8));
    }
}
