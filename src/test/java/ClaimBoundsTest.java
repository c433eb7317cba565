/** The boundary cases of what the document says of VARIABLES, CLAUSES, PLANES and THE CLAIM. */
public final class ClaimBoundsTest {
    public static void main(String[] args) {
        variables();
        litsBothWays();
        clausesHold();
        planesHold();
        textsOf400Bytes();
        kindsOfLines();
        terms();
        bounds();
        sixteenAxioms();
        whatAxiomsSay();
        nodesToldOnce();
        nodesToldAhead();
        sinks();
        Check.finish("ClaimBoundsTest");
    }

    private static void variables() {
        Check.says("VARIABLES a to f, in order, each 0 or 1.");
        for (int v = 0; v < 6; v++) {
            PlaneProof x = Check.claimed("or " + (char) ('a' + v) + ";");
            Check.same("its bit", 1 << v, x.lits(0, false));
            Check.same("it is 1 by half of all values", 32, x.often(0));
            Check.yes("by its bit alone", x.holds(0, 1 << v));
            Check.no("not by all others", x.holds(0, 63 - (1 << v)));
        }
        Check.wrongClaim("or ^g;");
        Check.wrongClaim("or ^z;");
        // The bytes ahead of a and behind z.
        Check.wrongClaim("or ^`;");
        Check.wrongClaim("or ^{;");
        Check.wrongClaim("or ^A;");
    }

    private static void litsBothWays() {
        Check.says("A LIT is V (it is 1) or - V (it is 0).");
        PlaneProof x = Check.claimed("or f;or - f;");
        Check.yes("V by 1", x.holds(0, 32));
        Check.no("V by 0", x.holds(0, 31));
        Check.no("- V by 1", x.holds(1, 32));
        Check.yes("- V by 0", x.holds(1, 31));
    }

    private static void clausesHold() {
        Check.says("A CLAUSE is a set of LITS, no VARIABLE twice: one of them at least.");
        PlaneProof x = Check.told("or a - b c;or a;or - a;or c - b a;", "res 1 2 a;");
        Check.no("none of them", x.holds(0, 2));
        Check.yes("one of them", x.holds(0, 3));
        Check.yes("another one", x.holds(0, 0));
        Check.yes("all of them", x.holds(0, 5));
        Check.same("without lits it never holds", 0, x.often(4));
        Check.same("the order told does not matter", 0, x.same(3));
        Check.wrongClaim("or a ^a;");
        Check.wrongClaim("or a - ^a;");
        Check.wrongClaim("or - a ^a;");
        Check.wrongClaim("or - a - ^a;");
        Check.wrongClaim("or a b c d e f ^f;");
    }

    private static void planesHold() {
        Check.says("A PLANE: a COEFFICIENT for each VARIABLE, a BOUND: "
            + "COEFFICIENTS times VARIABLES together are BOUND at least.");
        PlaneProof x = Check.claimed("sum 2 a 3 b - 4 f least 1;");
        Check.same("one for each", "2 3 0 0 0 -4 least 1", Check.planeOf(x, 0));
        Check.yes("the bound itself", x.holds(0, 3 + 32));
        Check.no("one less", x.holds(0, 0));
        Check.yes("one more", x.holds(0, 1));
        Check.no("two less", x.holds(0, 2 + 32));
        Check.yes("others do not matter", x.holds(0, 3 + 32 + 28));
    }

    private static void textsOf400Bytes() {
        Check.says("THE CLAIM is a text of at most 400 bytes: { LINE ; }.");
        Check.rightClaim(0, "");
        Check.rightClaim(0, " ");
        Check.rightClaim(0, " ".repeat(400));
        Check.rightClaim(1, "or a;" + "\n".repeat(395));
        Check.rightClaim(1, "\t".repeat(395) + "or a;");
        Check.wrongClaim(" ".repeat(396) + "or a^");
        Check.wrongClaim(" ".repeat(395) + "or a^!");
        Check.wrongClaim("^;");
        Check.wrongClaim("or a;^;");
        Check.wrongClaim("or a^");
        Check.wrongClaim("or a ^or b;");
    }

    private static void kindsOfLines() {
        Check.says("LINE: or LIT { LIT } | sum TERM { TERM } least [ - ] N | source V | step V from V { V } | sink V.");
        Check.rightClaim(1, "or a;");
        Check.rightClaim(1, "or - a b - c d - e f;");
        Check.wrongClaim("or^;");
        Check.wrongClaim("or -^;");
        Check.wrongClaim("or - ^- a;");
        Check.rightClaim(1, "sum a least 1;");
        Check.rightClaim(1, "sum - a 2 b - 3 c d 5 e - 6 f least - 1;");
        Check.wrongClaim("sum^;");
        Check.wrongClaim("sum ^least 1;");
        Check.wrongClaim("sum a^;");
        Check.wrongClaim("sum a least^;");
        Check.wrongClaim("sum a least -^;");
        Check.wrongClaim("sum a least 1 ^least 1;");
        Check.rightClaim(1, "source f;");
        Check.wrongClaim("source^;");
        Check.wrongClaim("source ^- a;");
        Check.wrongClaim("source a ^b;");
        Check.rightClaim(2, "source a;step b from a;");
        Check.rightClaim(6, "source a;source b;source c;source d;source e;step f from a b c d e;");
        Check.wrongClaim("source a;step^;");
        Check.wrongClaim("source a;step b^;");
        Check.wrongClaim("source a;step b ^a;");
        Check.wrongClaim("source a;step b from^;");
        Check.wrongClaim("source a;step b from ^- a;");
        Check.wrongClaim("source a;step b from a ^from a;");
        Check.rightClaim(2, "source a;sink a;");
        Check.wrongClaim("source a;sink^;");
        Check.wrongClaim("source a;sink a ^a;");
        Check.wrongClaim("source a;sink ^- a;");
    }

    private static int coefficient(String term) {
        return Check.claimed("sum " + term + " least 0;").plane(0, 0);
    }

    private static void terms() {
        Check.says("TERM: [ - ] [ N ] V (N 1 to 99; 1 without; no VARIABLE twice)");
        Check.wrongClaim("sum ^0 a least 1;");
        Check.wrongClaim("sum - ^0 a least 1;");
        Check.wrongClaim("sum ^00 a least 1;");
        Check.same("the least", 1, coefficient("1 a"));
        Check.same("the least, told by two digits", 1, coefficient("01 a"));
        Check.same("the greatest", 99, coefficient("99 a"));
        Check.wrongClaim("sum ^100 a least 1;");
        Check.wrongClaim("sum - ^100 a least 1;");
        Check.same("below 0", -1, coefficient("- 1 a"));
        Check.same("the least below 0", -99, coefficient("- 99 a"));
        Check.same("without", 1, coefficient("a"));
        Check.same("without, below 0", -1, coefficient("- a"));
        Check.wrongClaim("sum 2 ^- a least 1;");
        Check.wrongClaim("sum 2 ^3 a least 1;");
        Check.wrongClaim("sum 2 ^least 1;");
        Check.wrongClaim("sum - ^least 1;");
        Check.wrongClaim("sum a ^a least 1;");
        Check.wrongClaim("sum a - ^a least 1;");
        Check.wrongClaim("sum a 2 ^a least 1;");
        Check.wrongClaim("sum a b c d e f ^a least 1;");
        Check.wrongClaim("sum a b c d e f - 9 ^c least 1;");
    }

    private static int bound(String bound) {
        return Check.claimed("sum a least " + bound + ";").plane(0, -1);
    }

    private static void bounds() {
        Check.says("the BOUND: 0 to 99.");
        Check.same("0", 0, bound("0"));
        Check.same("0 told by two digits", 0, bound("00"));
        Check.same("- 0", 0, bound("- 0"));
        Check.same("1", 1, bound("1"));
        Check.same("- 1", -1, bound("- 1"));
        Check.same("99", 99, bound("99"));
        Check.same("- 99", -99, bound("- 99"));
        Check.wrongClaim("sum a least ^100;");
        Check.wrongClaim("sum a least - ^100;");
        Check.wrongClaim("sum a least ^000;");
        Check.wrongClaim("sum a least - ^- 1;");
    }

    private static void sixteenAxioms() {
        Check.says("Each LINE is an AXIOM (16 at most)");
        String fifteen = "source a;sink a;sum a least 0;" + "or a;".repeat(12);
        Check.rightClaim(15, fifteen);
        Check.rightClaim(16, fifteen + "or b;");
        Check.rightClaim(16, fifteen + "sum b least 0;");
        Check.rightClaim(16, fifteen + "source b;");
        Check.rightClaim(16, fifteen + "step b from a;");
        Check.rightClaim(16, fifteen + "or b; \t\n");
        String sixteen = fifteen + "or b;";
        Check.wrongClaim(sixteen + "^or b;");
        Check.wrongClaim(sixteen + "\n ^sum b least 0;");
        Check.wrongClaim(sixteen + "^source b;");
        Check.wrongClaim(sixteen + "^step b from a;");
        Check.wrongClaim(sixteen + "^sink a;");
        Check.wrongClaim(sixteen + "^or");
        PlaneProof x = Check.claimed(sixteen);
        Check.same("the last one", 2, x.lits(15, false));
        Check.fails("none behind it", IndexOutOfBoundsException.class, () -> x.line(16, 0));
    }

    private static void saysClause(PlaneProof x, int line, int ones, int noughts) {
        Check.same("V of " + line, ones, x.lits(line, false));
        Check.same("- V of " + line, noughts, x.lits(line, true));
    }

    private static void whatAxiomsSay() {
        Check.says("or: that CLAUSE; sum: that PLANE; source: the CLAUSE of V; "
            + "step: V, or not one of those behind from; sink: the CLAUSE - V.");
        PlaneProof x = Check.claimed("or - f a;sum - 9 f least - 2;source f;source a;source b;source c;source d;"
            + "step e from d c b a f;sink f;");
        saysClause(x, 0, 1, 32);
        Check.same("sum", "0 0 0 0 0 -9 least -2", Check.planeOf(x, 1));
        saysClause(x, 2, 32, 0);
        saysClause(x, 7, 16, 47);
        saysClause(x, 8, 0, 32);
        PlaneProof y = Check.claimed("source b;step a from b;sink b;");
        saysClause(y, 1, 1, 2);
        saysClause(y, 2, 0, 2);
    }

    private static void nodesToldOnce() {
        Check.says("NODES are VARIABLES that are told by source or step, each once");
        Check.wrongClaim("source a;source ^a;");
        Check.wrongClaim("source a;step ^a from a;");
        Check.wrongClaim("source a;step b from a;step ^b from a;");
        Check.wrongClaim("source a;step b from a;source ^b;");
        PlaneProof x = Check.claimed("or a;sum b least 0;source a;step b from a;");
        Check.same("or and sum tell none", 3, x.node(0));
        Check.same("no node", 0, Check.claimed("or a;sum b least 0;").node(0));
        PlaneProof all = Check.claimed("source f;step e from f;source d;step c from d;source b;step a from b;");
        Check.same("all six", 63, all.node(0));
        Check.same("the sources", 42, all.node(1));
        Check.wrongClaim("source f;step e from f;source d;step c from d;source b;step a from b;source ^c;");
    }

    private static void nodesToldAhead() {
        Check.says("those behind from (each once) told ahead");
        Check.wrongClaim("source a;step b from a ^a;");
        Check.wrongClaim("source a;source c;step b from a c ^a;");
        Check.wrongClaim("source a;step b from ^c;");
        Check.wrongClaim("source a;step b from a ^c;source c;");
        Check.wrongClaim("source a;step b from a ^b;");
        Check.wrongClaim("step b from ^b;");
        Check.wrongClaim("or c;source a;step b from a ^c;");
        Check.wrongClaim("sum c least 0;step b from ^c;");
        Check.rightClaim(3, "source a;step b from a;step c from b a;");
    }

    private static void sinks() {
        Check.says("the SINK is one that is told ahead, sink stands once.");
        Check.wrongClaim("sink ^a;");
        Check.wrongClaim("sink ^a;source a;");
        Check.wrongClaim("source a;sink ^b;source b;");
        Check.wrongClaim("or b;source a;sink ^b;");
        Check.wrongClaim("source a;sink a;^sink a;");
        Check.wrongClaim("source a;source b;sink a;or c; ^sink b;");
        Check.same("a source", 5, Check.claimed("source f;sink f;").node(2));
        PlaneProof x = Check.claimed("source b;step a from b;sink a;step c from a;");
        Check.same("a step, and nodes told behind it", 0, x.node(2));
        Check.same("none is told", -1, Check.claimed("source a;").node(2));
        PlaneProof again = Check.claimed("source a;sink a;");
        Check.claim(again, "source b;sink b;");
        Check.same("once in each claim", 1, again.node(2));
    }
}
