import java.util.NoSuchElementException;

/** The boundary cases of what the document says of exceptions: which is first, and what a call that throws changes. */
public final class ThrowBoundsTest {
    private static final int[] NO_LINES = {-1, 4, 55, 56, 63, 64, 68, Integer.MIN_VALUE, Integer.MAX_VALUE};
    private static final int[] NO_WHATS = {-1, Integer.MIN_VALUE, Integer.MAX_VALUE};

    public static void main(String[] args) {
        theOneToldFirst();
        nothingChanges();
        nothingOfATextChanges();
        theTapeStays();
        noSuchLine();
        noSuchVariable();
        noNumber();
        anotherWhat();
        noneSuch();
        itCannotBe();
        setsAreBits();
        calls512();
        Check.finish("ThrowBoundsTest");
    }

    /** Lines 0 and 1 are clauses, 2 is a plane, 3 the clause without lits. */
    private static PlaneProof made() {
        return Check.told("or a;or - a;sum b least 0;", "res 0 1 a;");
    }

    private static void index(String what, Check.Call call) {
        Check.fails(what, IndexOutOfBoundsException.class, call);
    }

    private static void argument(String what, Check.Call call) {
        Check.fails(what, IllegalArgumentException.class, call);
    }

    private static void element(String what, Check.Call call) {
        Check.fails(what, NoSuchElementException.class, call);
    }

    private static void state(String what, Check.Call call) {
        Check.fails(what, IllegalStateException.class, call);
    }

    private static void theOneToldFirst() {
        Check.says("Of several exceptions the one told first is thrown;");
        PlaneProof x = made();
        index("line and what", () -> x.line(4, 6));
        index("line and variable", () -> x.plane(4, 6));
        index("variable, and the line is a clause", () -> x.plane(0, 6));
        index("variable below NONE, and the line is a clause", () -> x.plane(0, -2));
        index("line and values", () -> x.holds(4, 64));
        index("line and what", () -> x.measure(-1, 5));
        argument("set and what", () -> x.units(64, 0, 3));
        argument("one in common and what", () -> x.units(1, 1, -1));
        argument("width and what", () -> x.within(7, 3));
        argument("width and what", () -> x.within(-1, -1));
        index("line and values", () -> x.slack(-1, -1));
    }

    /** What can be asked without writing anything; it takes fewer than 200 calls. */
    private static String all(PlaneProof x) {
        StringBuilder text = new StringBuilder();
        for (int what = 0; what <= 10; what++) {
            text.append(x.count(what)).append(' ');
        }
        int lines = x.count(1);
        for (int line = 0; line < lines; line++) {
            for (int what = 0; what < 6; what++) {
                text.append(x.line(line, what)).append(' ');
            }
            text.append(x.often(line)).append(' ').append(x.measure(line, 3)).append(' ').append(x.tree(line)).append(' ');
        }
        for (int width = 0; width <= 6; width++) {
            text.append(x.within(width, 0)).append(' ').append(x.pebbled(width)).append(' ');
        }
        text.append(x.core(true)).append(' ').append(x.pure(true)).append(' ').append(x.pure(false)).append(' ');
        text.append(x.node(0)).append(' ').append(x.node(1)).append(' ').append(x.node(2)).append(' ');
        text.append(x.model(0)).append(' ').append(x.refutes()).append(' ').append(Check.written(x));
        return text.toString();
    }

    private static final String CLAIM = "source a;step b from a;sink b;sum 2 b least 1;";
    private static final String PROOF = "res 0 1 a;res 4 2 b;div 3 2;";

    private static void nothingChanges() {
        Check.says("a call that throws changes nothing but the TAPE, where it is used up, and fault(), where a text is read.");
        PlaneProof x = Check.told(CLAIM, PROOF);
        x.translate(5);
        String before = all(x);
        String[] due = new String[] {
            Check.outcome(() -> x.line(7, 0)), Check.outcome(() -> x.line(0, 6)), Check.outcome(() -> x.lits(3, true)),
            Check.outcome(() -> x.plane(0, 0)), Check.outcome(() -> x.plane(3, 6)), Check.outcome(() -> x.cut(0)),
            Check.outcome(() -> x.holds(0, 64)), Check.outcome(() -> x.often(7)), Check.outcome(() -> x.measure(0, 5)),
            Check.outcome(() -> x.tree(7)), Check.outcome(() -> x.needs(0, 7)), Check.outcome(() -> x.uses(7)),
            Check.outcome(() -> x.same(7)), Check.outcome(() -> x.gives(7, 0)), Check.outcome(() -> x.units(1, 1, 0)),
            Check.outcome(() -> x.units(0, 0, 3)), Check.outcome(() -> x.within(7, 0)), Check.outcome(() -> x.within(0, 3)),
            Check.outcome(() -> x.has(0, 64, 0)), Check.outcome(() -> x.node(12)), Check.outcome(() -> x.pebbled(7)),
            Check.outcome(() -> x.trim(7)), Check.outcome(() -> x.translate(7)), Check.outcome(() -> x.translate(6)),
            Check.outcome(() -> x.translated(6)), Check.outcome(() -> x.slack(0, 64)), Check.outcome(() -> x.rests(7)),
            Check.outcome(() -> x.without(4)), Check.outcome(() -> x.stands(6, true))};
        for (int k = 0; k < due.length; k++) {
            Check.yes("call " + k + " throws, not " + due[k], due[k].endsWith("Exception"));
        }
        Check.same("all answers", before, all(x));
        Check.same("no fault", -1, x.fault());
    }

    private static void nothingOfATextChanges() {
        PlaneProof x = Check.told(CLAIM, PROOF);
        x.trim(5);
        String before = all(x);
        // Each is wrong at its end, so that all ahead of it has been read.
        Check.tape(x, "source c;source d;sink d;or a;sum a least 9;or");
        argument("a claim", x::claim);
        Check.same("its fault", 46, x.fault());
        Check.tape(x, "low a;low b;add 4 5;low");
        argument("a proof", x::proof);
        Check.same("its fault", 23, x.fault());
        Check.tape(x, "clause 3;");
        argument("a proof whose clause does not follow", x::proof);
        Check.same("its fault", 0, x.fault());
        Check.no("the tape is used up", x.end(1));
        Check.same("all answers", before, all(x));
        Check.same("the proof can be told again", 3, Check.proof(x, PROOF));
        Check.same("no fault any more", -1, x.fault());
    }

    private static void theTapeStays() {
        PlaneProof x = made();
        Check.tape(x, "or");
        argument("a wrong text", x::claim);
        Check.tape(x, "or b;or c;");
        index("no line", () -> x.line(4, 0));
        element("no what", () -> x.line(0, 6));
        argument("no values", () -> x.holds(0, 64));
        state("a plane", () -> x.translate(2));
        Check.same("the fault of the latest text stays", 2, x.fault());
        Check.no("the tape has ten bytes, no more", x.end(11));
        Check.yes("and no fewer", x.end(10));
        Check.same("and is read as it was", 2, x.claim());
    }

    private static void noSuchLine() {
        Check.says("IndexOutOfBoundsException: there is no such LINE, VARIABLE (0 to 5).");
        PlaneProof x = made();
        for (int line : NO_LINES) {
            index("line " + line, () -> x.line(line, 0));
            index("lits " + line, () -> x.lits(line, false));
            index("plane " + line, () -> x.plane(line, 0));
            index("cut " + line, () -> x.cut(line));
            index("holds " + line, () -> x.holds(line, 0));
            index("often " + line, () -> x.often(line));
            index("measure " + line, () -> x.measure(line, 0));
            index("tree " + line, () -> x.tree(line));
            index("needs " + line, () -> x.needs(line, 0));
            index("needs 0, " + line, () -> x.needs(0, line));
            index("needs itself " + line, () -> x.needs(line, line));
            index("uses " + line, () -> x.uses(line));
            index("same " + line, () -> x.same(line));
            index("gives " + line, () -> x.gives(line, 0));
            index("gives 0, " + line, () -> x.gives(0, line));
            index("trim " + line, () -> x.trim(line));
            index("translate " + line, () -> x.translate(line));
            index("translated " + line, () -> x.translated(line));
            index("slack " + line, () -> x.slack(line, 0));
            index("rests " + line, () -> x.rests(line));
            index("without " + line, () -> x.without(line));
        }
        index("a line of the proof is no axiom", () -> x.without(3));
        Check.same("the last line is one", 1, x.line(3, 0));
        Check.same("the last axiom is one", 0, x.without(2));
        index("a new object has none", () -> new PlaneProof().line(0, 0));
        index("nor an axiom", () -> new PlaneProof().without(0));
    }

    private static void noSuchVariable() {
        PlaneProof x = made();
        for (int v : new int[] {6, 7, 32, Integer.MIN_VALUE, Integer.MAX_VALUE}) {
            index("plane of " + v, () -> x.plane(2, v));
            index("stands of " + v, () -> x.stands(v, false));
            index("stands of " + v + " in the proof", () -> x.stands(v, true));
        }
        index("plane of -2", () -> x.plane(2, -2));
        index("stands of NONE", () -> x.stands(-1, false));
        index("stands of NONE in the proof", () -> x.stands(-1, true));
        Check.same("NONE is the bound", 0, x.plane(2, -1));
        Check.same("0 is one", 0, x.plane(2, 0));
        Check.same("5 is one", 0, x.plane(2, 5));
        Check.same("0 stands", 2, x.stands(0, false));
        Check.same("5 stands nowhere", 0, x.stands(5, false));
    }

    private static void noNumber() {
        Check.says("IllegalArgumentException: a number is none; a text is wrong.");
        PlaneProof x = made();
        for (int none : new int[] {-1, 64, Integer.MIN_VALUE, Integer.MAX_VALUE}) {
            argument("values " + none, () -> x.holds(0, none));
            argument("values " + none, () -> x.slack(0, none));
            argument("ones " + none, () -> x.units(none, 0, 0));
            argument("noughts " + none, () -> x.units(0, none, 0));
            argument("ones " + none, () -> x.has(0, none, 0));
            argument("noughts " + none, () -> x.has(0, 0, none));
        }
        for (int none : new int[] {-1, 7, Integer.MIN_VALUE, Integer.MAX_VALUE}) {
            argument("width " + none, () -> x.within(none, 0));
            argument("width " + none, () -> x.has(none, 0, 0));
            argument("p " + none, () -> x.pebbled(none));
        }
        Check.yes("values 0", x.holds(2, 0));
        Check.yes("values 63", x.holds(2, 63));
        Check.same("width 0", 4, x.within(0, 0) + x.within(0, 1));
        Check.same("width 6", 4, x.within(6, 0) + x.within(6, 1));
        Check.same("p 0", -1, x.pebbled(0));
        Check.same("p 6", -1, x.pebbled(6));
        Check.tape(x, "or");
        argument("a wrong claim", x::claim);
        Check.tape(x, "low");
        argument("a wrong proof", x::proof);
    }

    private static void anotherWhat() {
        Check.says("NoSuchElementException: there is none such, another what.");
        PlaneProof x = made();
        for (int what : NO_WHATS) {
            element("line, what " + what, () -> x.line(0, what));
            element("measure, what " + what, () -> x.measure(0, what));
            element("units, what " + what, () -> x.units(0, 0, what));
            element("within, what " + what, () -> x.within(0, what));
            element("node, what " + what, () -> x.node(what));
            Check.same("count, what " + what, -1, x.count(what));
        }
        element("line, what 6", () -> x.line(0, 6));
        element("measure, what 5", () -> x.measure(0, 5));
        element("units, what 3", () -> x.units(0, 0, 3));
        element("within, what 3", () -> x.within(0, 3));
        Check.same("line, what 5", 0, x.line(0, 5));
        Check.same("measure, what 4", 1, x.measure(0, 4));
        Check.same("units, what 2", 1, x.units(0, 0, 2));
        Check.same("within, what 2", 1, x.within(0, 2));
    }

    private static void noneSuch() {
        PlaneProof x = made();
        element("lits of a plane", () -> x.lits(2, false));
        element("lits of a plane", () -> x.lits(2, true));
        element("coefficient of a clause", () -> x.plane(0, 0));
        element("bound of a clause", () -> x.plane(3, -1));
        element("cut of a clause", () -> x.cut(0));
        element("cut of a clause without lits", () -> x.cut(3));
        element("no node", () -> x.node(10));
    }

    private static void itCannotBe() {
        Check.says("IllegalStateException: it cannot be.");
        PlaneProof x = Check.told("or a;sum a least 1;", "plane 0;clause 1 a;weak 3 b;weak 0 b;");
        for (int line = 1; line <= 4; line++) {
            int it = line;
            state("translate " + line, () -> x.translate(it));
            state("translated " + line, () -> x.translated(it));
        }
        Check.same("an axiom", 1, x.translated(0));
        Check.same("weak of it", 3, x.translated(5));
    }

    private static void setsAreBits() {
        Check.says("Sets of VARIABLES are bits.");
        PlaneProof x = Check.claimed("or a - f;");
        Check.same("a", 1, x.lits(0, false));
        Check.same("f", 32, x.lits(0, true));
        Check.same("none", 0, x.units(0, 0, 0));
        Check.same("all 1", 63, x.units(63, 0, 0));
        Check.same("all 0", 63, x.units(0, 63, 1));
        Check.same("some 1, all others 0", 31, x.units(31, 32, 0));
        Check.yes("a and - f", x.has(6, 1, 32));
        Check.no("all as V", x.has(6, 63, 0));
        Check.no("all as - V", x.has(6, 0, 63));
        argument("all both ways", () -> x.has(6, 63, 63));
        argument("f both ways", () -> x.units(32, 32, 0));
        argument("a seventh", () -> x.units(64, 0, 0));
    }

    private static void calls512() {
        Check.says("An object is used for at most 512 calls after it has been made");
        PlaneProof x = new PlaneProof();
        // Five of each seven calls bring a text, so that much is told and told again.
        for (int call = 0; call < 511; call += 7) {
            Check.same("tape", 20, x.feed(0x6f722061, 0x3b6f7220, 0x2d613b20, 0x20202020, 0x20202020));
            Check.same("claim", 2, x.claim());
            Check.same("tape", 20, x.feed(0x72657320, 0x30203120, 0x613b2020, 0x20202020, 0x20202020));
            Check.same("proof", 1, x.proof());
            Check.same("core", 3, x.core(true));
            Check.same("least width", 0, x.leastWidth());
            Check.same("translate", 24, x.translate(2));
        }
        Check.same("the 512th call", 2, x.refutes());
    }
}
