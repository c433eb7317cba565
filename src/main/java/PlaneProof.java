import java.util.Arrays;
import java.util.NoSuchElementException;

/** Proofs by resolution and by cutting planes, over six variables: see the document's promises. */
public final class PlaneProof {
    public static final int NONE = -1;

    private static final int VARIABLES = 6;
    private static final int ALL_VARIABLES = 63;
    private static final int ALL_VALUES = 64;

    private static final int MOST_BYTES = 400;
    private static final int FEED_BYTES = 20;
    private static final int MOST_AXIOMS = 16;
    private static final int MOST_STEPS = 40;
    private static final int MOST_LINES = 56;
    private static final int MOST_WIDTH = 6;
    private static final int MOST_PEBBLES = 6;
    /** Each variable stands in a clause as V, as - V, or not at all: three to the sixth. */
    private static final int MOST_CLAUSES = 729;

    private static final int MOST_COEFFICIENT = 999;
    private static final int MOST_BOUND = 9999;

    private static final int AXIOM = 0;
    private static final int RES = 1;
    private static final int WEAK = 2;
    private static final int LOW = 3;
    private static final int TOP = 4;
    private static final int PLANE = 5;
    private static final int ADD = 6;
    private static final int MUL = 7;
    private static final int DIV = 8;
    private static final int CLAUSE = 9;

    private static final int UNASKED = -2;

    private final byte[] tape;
    private int tapeSize;
    private int latestFault;
    private Book book;
    private Graph graph;
    private final Closure[] closures;
    private int coreBits;
    private final Scribe scribe;
    private final Composer composer;

    public PlaneProof() {
        tape = new byte[MOST_BYTES];
        tapeSize = 0;
        latestFault = NONE;
        book = new Book(new Line[MOST_LINES], 0, 0);
        graph = new Graph();
        closures = new Closure[MOST_WIDTH + 1];
        coreBits = UNASKED;
        scribe = new Scribe();
        composer = new Composer(scribe);
    }

    public int feed(int a, int b, int c, int d, int e) {
        if (tapeSize + FEED_BYTES > MOST_BYTES) {
            return NONE;
        }
        putOnTape(a);
        putOnTape(b);
        putOnTape(c);
        putOnTape(d);
        putOnTape(e);
        return tapeSize;
    }

    public boolean end(int n) {
        if (n < 0 || n > tapeSize) {
            return false;
        }
        tapeSize = n;
        return true;
    }

    public int claim() throws IllegalArgumentException {
        ClaimReader reader = new ClaimReader(new Signs(tape, tapeSize));
        tapeSize = 0;
        boolean right = reader.readText(MOST_AXIOMS);
        latestFault = reader.faultAt;
        if (!right) {
            throw new IllegalArgumentException("the claim is wrong");
        }
        book = new Book(reader.lines, reader.size, reader.size);
        graph = reader.graph;
        forgetAnswers();
        return book.axioms;
    }

    public int proof() throws IllegalArgumentException {
        ProofReader reader = new ProofReader(new Signs(tape, tapeSize), book);
        tapeSize = 0;
        boolean right = reader.readText(MOST_STEPS);
        latestFault = reader.faultAt;
        if (!right) {
            throw new IllegalArgumentException("the proof is wrong");
        }
        book = new Book(reader.lines, book.axioms, reader.size);
        return book.size - book.axioms;
    }

    public int fault() {
        return latestFault;
    }

    public int line(int line, int what) throws IndexOutOfBoundsException, NoSuchElementException {
        Line it = existing(line);
        switch (what) {
            case 0:
                return it.how;
            case 1:
                return it.isPlane ? 1 : 0;
            case 2:
                return it.first;
            case 3:
                return it.second;
            case 4:
                return it.how == RES ? it.number : NONE;
            case 5:
                return it.isNought() ? 1 : 0;
            default:
                throw new NoSuchElementException("another what");
        }
    }

    public int lits(int line, boolean not) throws IndexOutOfBoundsException, NoSuchElementException {
        Line it = existing(line);
        if (it.isPlane) {
            throw new NoSuchElementException("the line is a plane");
        }
        return it.variablesOneWay(not);
    }

    public int plane(int line, int variable) throws IndexOutOfBoundsException, NoSuchElementException {
        Line it = existing(line);
        if (variable < NONE || variable >= VARIABLES) {
            throw new IndexOutOfBoundsException("no such variable");
        }
        if (!it.isPlane) {
            throw new NoSuchElementException("the line is a clause");
        }
        return variable == NONE ? it.bound : it.coefficients[variable];
    }

    public int cut(int line) throws IndexOutOfBoundsException, NoSuchElementException {
        Line it = existing(line);
        if (!it.isPlane) {
            throw new NoSuchElementException("the line is a clause");
        }
        return it.greatestDivisor();
    }

    public boolean holds(int line, int values) throws IndexOutOfBoundsException, IllegalArgumentException {
        Line it = existing(line);
        checkValues(values);
        return (it.table >>> values & 1L) != 0;
    }

    public int often(int line) throws IndexOutOfBoundsException {
        return Long.bitCount(existing(line).table);
    }

    public int model(int k) {
        long models = book.modelsWithout(NONE);
        if (k == NONE) {
            return Long.bitCount(models);
        }
        int ahead = 0;
        for (int values = 0; values < ALL_VALUES; values++) {
            if ((models >>> values & 1L) != 0) {
                if (ahead == k) {
                    return values;
                }
                ahead++;
            }
        }
        return NONE;
    }

    public int refutes() {
        for (int k = 0; k < book.size; k++) {
            if (book.lines[k].isNought()) {
                return k;
            }
        }
        return NONE;
    }

    public int measure(int line, int what) throws IndexOutOfBoundsException, NoSuchElementException {
        Line it = existing(line);
        switch (what) {
            case 0:
                return Long.bitCount(it.needed >>> book.axioms);
            case 1:
                return it.width;
            case 2:
                return it.depth;
            case 3:
                return book.mostKept(it);
            case 4:
                return book.isRegular(it) ? 1 : 0;
            default:
                throw new NoSuchElementException("another what");
        }
    }

    public long tree(int line) throws IndexOutOfBoundsException {
        return existing(line).treeSize;
    }

    public boolean needs(int line, int other) throws IndexOutOfBoundsException {
        Line it = existing(line);
        existing(other);
        return (it.needed >>> other & 1L) != 0;
    }

    public int uses(int line) throws IndexOutOfBoundsException {
        existing(line);
        return book.usersOf(line);
    }

    public int same(int line) throws IndexOutOfBoundsException {
        Line it = existing(line);
        for (int k = 0; k < line; k++) {
            if (it.saysAs(book.lines[k])) {
                return k;
            }
        }
        return line;
    }

    public boolean gives(int line, int other) throws IndexOutOfBoundsException {
        Line it = existing(line);
        return it.implies(existing(other));
    }

    public int units(int ones, int noughts, int what) throws IllegalArgumentException, NoSuchElementException {
        checkSets(ones, noughts);
        if (what < 0 || what > 2) {
            throw new NoSuchElementException("another what");
        }
        Units found = new Units(ones, noughts);
        found.spread(book);
        switch (what) {
            case 0:
                return found.ones;
            case 1:
                return found.noughts;
            default:
                return found.clash ? 1 : 0;
        }
    }

    public int within(int width, int what) throws IllegalArgumentException, NoSuchElementException {
        checkWidth(width);
        if (what < 0 || what > 2) {
            throw new NoSuchElementException("another what");
        }
        Closure closure = closureOf(width);
        switch (what) {
            case 0:
                return closure.size;
            case 1:
                return closure.rounds;
            default:
                return closure.emptyRound;
        }
    }

    public int leastWidth() {
        for (int width = 0; width <= MOST_WIDTH; width++) {
            if (closureOf(width).emptyRound != NONE) {
                return width;
            }
        }
        return NONE;
    }

    public boolean has(int width, int ones, int noughts) throws IllegalArgumentException {
        checkWidth(width);
        checkSets(ones, noughts);
        return closureOf(width).isThere(ones, noughts);
    }

    public int node(int what) throws NoSuchElementException {
        switch (what) {
            case 0:
                return graph.nodes;
            case 1:
                return graph.sources;
            case 2:
                return graph.sink;
            default:
                int variable = what - 10;
                if (variable < 0 || variable >= VARIABLES || !graph.isNode(variable)) {
                    throw new NoSuchElementException("another what, or no node");
                }
                return graph.behind[variable];
        }
    }

    public int pebbled(int p) throws IllegalArgumentException {
        if (p < 0 || p > MOST_PEBBLES) {
            throw new IllegalArgumentException("no number of pebbles");
        }
        return graph.fewestMoves(p);
    }

    public int pebbles() {
        for (int p = 0; p <= MOST_PEBBLES; p++) {
            if (graph.fewestMoves(p) != NONE) {
                return p;
            }
        }
        return NONE;
    }

    public int trim(int line) throws IndexOutOfBoundsException {
        Line it = existing(line);
        composer.writeNeeded(book, it.needed);
        return scribe.size;
    }

    public int translate(int line) throws IndexOutOfBoundsException, IllegalStateException {
        Line it = existing(line);
        checkIsByResolution(it);
        composer.writeAsPlanes(book, it.needed);
        return scribe.size;
    }

    public int translated(int line) throws IndexOutOfBoundsException, IllegalStateException {
        Line it = existing(line);
        checkIsByResolution(it);
        return book.planeLinesFor(it.needed);
    }

    public int octet(int k) {
        return scribe.byteAt(k);
    }

    public int slack(int line, int values) throws IndexOutOfBoundsException, IllegalArgumentException {
        Line it = existing(line);
        checkValues(values);
        return it.sumBy(values) - it.bound;
    }

    public int rests(int line) throws IndexOutOfBoundsException {
        return (int) (existing(line).needed & book.axiomBits());
    }

    public int core(boolean set) {
        if (coreBits == UNASKED) {
            coreBits = book.leastCore();
        }
        if (coreBits == NONE) {
            return NONE;
        }
        return set ? coreBits : Integer.bitCount(coreBits);
    }

    public int without(int axiom) throws IndexOutOfBoundsException {
        if (axiom < 0 || axiom >= book.axioms) {
            throw new IndexOutOfBoundsException("no such axiom");
        }
        return Long.bitCount(book.modelsWithout(axiom));
    }

    public int pure(boolean not) {
        int thisWay = 0;
        int otherWay = 0;
        for (int k = 0; k < book.axioms; k++) {
            thisWay |= book.lines[k].variablesOneWay(not);
            otherWay |= book.lines[k].variablesOneWay(!not);
        }
        return thisWay & ~otherWay;
    }

    public int stands(int variable, boolean proof) throws IndexOutOfBoundsException {
        if (variable < 0 || variable >= VARIABLES) {
            throw new IndexOutOfBoundsException("no such variable");
        }
        int from = proof ? book.axioms : 0;
        int to = proof ? book.size : book.axioms;
        int found = 0;
        for (int k = from; k < to; k++) {
            if (book.lines[k].coefficients[variable] != 0) {
                found++;
            }
        }
        return found;
    }

    public int count(int what) {
        switch (what) {
            case 0:
                return book.axioms;
            case 1:
                return book.size;
            case 2:
                return book.size - book.planeCount();
            case 3:
                return book.planeCount();
            case 4:
                return book.madeBy(RES);
            case 5:
                return book.madeBy(ADD);
            case 6:
                return book.madeBy(DIV);
            case 7:
                return book.madeBy(CLAUSE);
            case 8:
                return scribe.size;
            case 9:
                return Long.bitCount(book.modelsWithout(NONE));
            case 10:
                return book.unusedSteps();
            default:
                return NONE;
        }
    }

    private void putOnTape(int number) {
        for (int shift = 24; shift >= 0; shift -= 8) {
            if (tapeSize < MOST_BYTES) {
                tape[tapeSize] = (byte) (number >>> shift);
                tapeSize++;
            }
        }
    }

    /** What was worked out of the claim before does not hold for another one. */
    private void forgetAnswers() {
        coreBits = UNASKED;
        for (int width = 0; width <= MOST_WIDTH; width++) {
            if (closures[width] != null) {
                closures[width].isBuilt = false;
            }
        }
    }

    private Line existing(int line) {
        if (line < 0 || line >= book.size) {
            throw new IndexOutOfBoundsException("no such line");
        }
        return book.lines[line];
    }

    private static void checkValues(int values) {
        if (values < 0 || values >= ALL_VALUES) {
            throw new IllegalArgumentException("no values");
        }
    }

    private static void checkSets(int ones, int noughts) {
        if (((ones | noughts) & ~ALL_VARIABLES) != 0 || (ones & noughts) != 0) {
            throw new IllegalArgumentException("no sets, or one in common");
        }
    }

    private static void checkWidth(int width) {
        if (width < 0 || width > MOST_WIDTH) {
            throw new IllegalArgumentException("no width");
        }
    }

    private void checkIsByResolution(Line line) {
        if (line.isPlane || !book.isByResolution(line.needed)) {
            throw new IllegalStateException("it is not a clause by resolution alone");
        }
    }

    /** The rows of a closure are made once, when its width is first asked for. */
    private Closure closureOf(int width) {
        if (closures[width] == null) {
            closures[width] = new Closure(width);
        }
        if (!closures[width].isBuilt) {
            closures[width].build(book);
        }
        return closures[width];
    }

    /**
     * What one line says, how it came and from what. A clause is held as the plane that says the
     * same, so that values, slack and units ask both in one way.
     */
    private static final class Line {
        final int how;
        final boolean isPlane;
        final int[] coefficients;
        int bound;
        /** A bit for each of the 64 values, set if the line holds by them. */
        long table;
        int first;
        int second;
        /** The variable of res, low, top; the number of mul, div. */
        int number;
        /** The lits of weak and clause in the order told, four bits each: the sign, the variable and one. */
        int told;
        /** A bit for each line that it needs, its own too. */
        long needed;
        int depth;
        long treeSize;
        int width;

        Line(int how, boolean isPlane) {
            this.how = how;
            this.isPlane = isPlane;
            coefficients = new int[VARIABLES];
            bound = isPlane ? 0 : 1;
            first = NONE;
            second = NONE;
            number = NONE;
        }

        void putLit(int variable, boolean not) {
            coefficients[variable] = not ? -1 : 1;
            if (not) {
                bound--;
            }
        }

        void copySaying(Line other) {
            for (int v = 0; v < VARIABLES; v++) {
                coefficients[v] = other.coefficients[v];
            }
            bound = other.bound;
        }

        /** Adds a plane so many times. */
        void addTimes(Line other, int times) {
            for (int v = 0; v < VARIABLES; v++) {
                coefficients[v] += other.coefficients[v] * times;
            }
            bound += other.bound * times;
        }

        boolean isWithinLimits() {
            for (int v = 0; v < VARIABLES; v++) {
                if (Math.abs(coefficients[v]) > MOST_COEFFICIENT) {
                    return false;
                }
            }
            return Math.abs(bound) <= MOST_BOUND;
        }

        void makeTable() {
            table = 0;
            for (int values = 0; values < ALL_VALUES; values++) {
                if (sumBy(values) >= bound) {
                    table |= 1L << values;
                }
            }
        }

        int sumBy(int values) {
            int sum = 0;
            for (int v = 0; v < VARIABLES; v++) {
                if ((values >>> v & 1) != 0) {
                    sum += coefficients[v];
                }
            }
            return sum;
        }

        boolean implies(Line other) {
            return (table & ~other.table) == 0;
        }

        boolean saysAs(Line other) {
            if (isPlane != other.isPlane || bound != other.bound) {
                return false;
            }
            for (int v = 0; v < VARIABLES; v++) {
                if (coefficients[v] != other.coefficients[v]) {
                    return false;
                }
            }
            return true;
        }

        int variablesOneWay(boolean not) {
            int bits = 0;
            for (int v = 0; v < VARIABLES; v++) {
                if (not ? coefficients[v] < 0 : coefficients[v] > 0) {
                    bits |= 1 << v;
                }
            }
            return bits;
        }

        int variables() {
            return variablesOneWay(false) | variablesOneWay(true);
        }

        boolean isNought() {
            return bound >= 1 && variables() == 0;
        }

        int greatestDivisor() {
            int divisor = 0;
            for (int v = 0; v < VARIABLES; v++) {
                divisor = commonDivisor(divisor, Math.abs(coefficients[v]));
            }
            return divisor;
        }

        private static int commonDivisor(int a, int b) {
            int left = a;
            int right = b;
            // Each step at least halves the left one within two steps.
            for (int k = 0; k < 64 && right != 0; k++) {
                int rest = left % right;
                left = right;
                right = rest;
            }
            return left;
        }

        boolean comesFrom(int line) {
            return first == line || second == line;
        }

        /** Called once, when the line gets its number; a and b are those it comes from, or null. */
        void settle(int index, Line a, Line b) {
            makeTable();
            needed = 1L << index;
            treeSize = 1;
            depth = 0;
            width = isPlane ? 0 : Integer.bitCount(variables());
            if (a != null) {
                takeIn(a);
            }
            if (b != null) {
                takeIn(b);
            }
        }

        private void takeIn(Line from) {
            needed |= from.needed;
            treeSize += from.treeSize;
            depth = Math.max(depth, from.depth + 1);
            width = Math.max(width, from.width);
        }
    }

    /** All lines of the claim and behind them those of the proof. */
    private static final class Book {
        final Line[] lines;
        final int axioms;
        final int size;

        Book(Line[] lines, int axioms, int size) {
            this.lines = lines;
            this.axioms = axioms;
            this.size = size;
        }

        long axiomBits() {
            return (1L << axioms) - 1;
        }

        /** The models, a bit each, with one axiom (or NONE) left out. */
        long modelsWithout(int axiom) {
            long models = -1L;
            for (int k = 0; k < axioms; k++) {
                if (k != axiom) {
                    models &= lines[k].table;
                }
            }
            return models;
        }

        /** The fewest axioms without a model together, as bits; NONE if all have one. */
        int leastCore() {
            return lesserCore(this, axioms, 0, -1L, NONE);
        }

        /**
         * Decides on the axioms below open, the highest first, and first without it: so sets come in
         * the order of their bits, and the first of a size stays best. open falls to 0, so it goes
         * no deeper than there are axioms.
         */
        private static int lesserCore(Book book, int open, int chosen, long models, int best) {
            if (best != NONE && Integer.bitCount(chosen) >= Integer.bitCount(best)) {
                return best;
            }
            if (models == 0) {
                return chosen;
            }
            if (open <= 0 || (models & book.modelsOfFirst(open)) != 0) {
                return best;
            }
            long table = book.lines[open - 1].table;
            int without = lesserCore(book, open - 1, chosen, models, best);
            return lesserCore(book, open - 1, chosen | 1 << open - 1, models & table, without);
        }

        private long modelsOfFirst(int many) {
            long models = -1L;
            for (int k = 0; k < many && k < axioms; k++) {
                models &= lines[k].table;
            }
            return models;
        }

        int usersOf(int line) {
            int users = 0;
            for (int k = axioms; k < size; k++) {
                if (lines[k].comesFrom(line)) {
                    users++;
                }
            }
            return users;
        }

        int unusedSteps() {
            int unused = 0;
            for (int k = axioms; k < size; k++) {
                if (usersOf(k) == 0) {
                    unused++;
                }
            }
            return unused;
        }

        int planeCount() {
            int planes = 0;
            for (int k = 0; k < size; k++) {
                if (lines[k].isPlane) {
                    planes++;
                }
            }
            return planes;
        }

        int madeBy(int how) {
            int made = 0;
            for (int k = 0; k < size; k++) {
                if (lines[k].how == how) {
                    made++;
                }
            }
            return made;
        }

        /** From the last line back: what a line or a later one comes from is still kept as it is made. */
        int mostKept(Line target) {
            long usedLater = 0;
            int most = 0;
            for (int k = size - 1; k >= axioms; k--) {
                if ((target.needed >>> k & 1L) != 0) {
                    usedLater |= bitOf(lines[k].first) | bitOf(lines[k].second);
                    long ahead = (1L << k) - 1 & ~axiomBits();
                    most = Math.max(most, 1 + Long.bitCount(usedLater & ahead));
                }
            }
            return most;
        }

        private static long bitOf(int line) {
            return line == NONE ? 0 : 1L << line;
        }

        boolean isRegular(Line target) {
            for (int k = axioms; k < size; k++) {
                boolean isNeeded = (target.needed >>> k & 1L) != 0;
                if (isNeeded && lines[k].how == RES && needsSameRes(k)) {
                    return false;
                }
            }
            return true;
        }

        private boolean needsSameRes(int line) {
            Line it = lines[line];
            for (int k = axioms; k < line; k++) {
                boolean isNeeded = (it.needed >>> k & 1L) != 0;
                if (isNeeded && lines[k].how == RES && lines[k].number == it.number) {
                    return true;
                }
            }
            return false;
        }

        boolean isByResolution(long needed) {
            for (int k = axioms; k < size; k++) {
                boolean isNeeded = (needed >>> k & 1L) != 0;
                if (isNeeded && lines[k].how != RES && lines[k].how != WEAK) {
                    return false;
                }
            }
            return true;
        }

        /** How many lines these needed ones become as planes. */
        int planeLinesFor(long needed) {
            int made = 0;
            for (int k = 0; k < size; k++) {
                if ((needed >>> k & 1L) != 0) {
                    made += planeLinesOf(lines[k]);
                }
            }
            return made;
        }

        private int planeLinesOf(Line line) {
            if (line.how == WEAK) {
                int before = Integer.bitCount(lines[line.first].variables());
                return 2 * (Integer.bitCount(line.variables()) - before);
            }
            if (line.how == RES && litsInBoth(line) != 0) {
                return 2 + 2 * Integer.bitCount(litsInOne(line));
            }
            return 1;
        }

        /** The variables of the lits that both lines of a res have. */
        int litsInBoth(Line res) {
            return lines[res.first].variables() & lines[res.second].variables() & ~(1 << res.number);
        }

        /** The variables of the other lits that a res leaves. */
        int litsInOne(Line res) {
            return lines[res.first].variables() ^ lines[res.second].variables();
        }
    }

    /** Cuts a text into words, numbers, and single signs. */
    private static final class Signs {
        private static final int END = 0;
        private static final int BLANK = 1;
        private static final int WORD = 2;
        private static final int NUMBER = 3;
        private static final int SIGN = 4;

        private final byte[] text;
        private final int size;
        /** The first byte of what stands here now, or the text's length. */
        int start;
        private int stop;
        private int kind;
        /** The number that stands here, NONE if it has too many digits. */
        int value;

        Signs(byte[] text, int size) {
            this.text = text;
            this.size = size;
            start = 0;
            stop = 0;
            kind = END;
            value = NONE;
        }

        void advance() {
            start = stop;
            while (start < size && kindAt(start) == BLANK) {
                start++;
            }
            kind = kindAt(start);
            stop = kind == SIGN ? start + 1 : start;
            while (stop < size && kind != SIGN && kindAt(stop) == kind) {
                stop++;
            }
            value = kind == NUMBER ? numberHere() : NONE;
        }

        private int numberHere() {
            int number = 0;
            for (int k = start; k < stop && k < text.length; k++) {
                number = k < start + 2 ? number * 10 + text[k] - '0' : NONE;
            }
            return number;
        }

        private int byteAt(int k) {
            return k >= 0 && k < size && k < text.length ? text[k] : 0;
        }

        private int kindAt(int k) {
            if (k < 0 || k >= size || k >= text.length) {
                return END;
            }
            int sign = text[k];
            if (sign == 9 || sign == 10 || sign == 32) {
                return BLANK;
            }
            if (sign >= 'a' && sign <= 'z') {
                return WORD;
            }
            return sign >= '0' && sign <= '9' ? NUMBER : SIGN;
        }

        boolean isEnd() {
            return kind == END;
        }

        boolean isSign(char sign) {
            return kind == SIGN && byteAt(start) == sign;
        }

        boolean isAnyWord() {
            return kind == WORD;
        }

        boolean isAnyNumber() {
            return kind == NUMBER;
        }

        boolean isNumber(int least, int most) {
            return kind == NUMBER && value >= least && value <= most;
        }

        boolean isWord(String word) {
            if (kind != WORD || word.length() != stop - start) {
                return false;
            }
            for (int k = 0; k < word.length(); k++) {
                if (word.charAt(k) != byteAt(start + k)) {
                    return false;
                }
            }
            return true;
        }

        /** The variable that stands here, NONE if none does. */
        int variable() {
            if (kind != WORD || stop - start != 1) {
                return NONE;
            }
            int variable = byteAt(start) - 'a';
            return variable < VARIABLES ? variable : NONE;
        }
    }

    /** What reading a claim and reading a proof have in common. */
    private abstract static class TextReader {
        final Signs signs;
        final Line[] lines;
        int size;
        int faultAt;

        TextReader(Signs signs) {
            this.signs = signs;
            lines = new Line[MOST_LINES];
            size = 0;
            faultAt = NONE;
        }

        /** Reads one line up to where its ; must stand; null if it is wrong. */
        abstract Line readUpToStop();

        /** Whether a line that is read up to its ; may be said. */
        abstract boolean isSound(Line line);

        boolean readText(int most) {
            signs.advance();
            for (int k = 0; k < most && !signs.isEnd(); k++) {
                int firstWord = signs.start;
                Line line = readUpToStop();
                if (line == null) {
                    return false;
                }
                if (!signs.isSign(';')) {
                    return wrongHere();
                }
                if (!isSound(line)) {
                    faultAt = firstWord;
                    return false;
                }
                signs.advance();
                append(line);
            }
            return signs.isEnd() || wrongHere();
        }

        private void append(Line line) {
            if (size < MOST_LINES) {
                line.settle(size, lineOrNull(line.first), lineOrNull(line.second));
                lines[size] = line;
                size++;
            }
        }

        Line lineOrNull(int line) {
            return line >= 0 && line < size ? lines[line] : null;
        }

        /** The fault is at what stands here now. */
        boolean wrongHere() {
            faultAt = signs.start;
            return false;
        }

        Line noLine() {
            wrongHere();
            return null;
        }

        /** Reads lits into a clause while some stand here, and so many at least. */
        boolean readLits(Line clause, int least) {
            for (int k = 0; k <= VARIABLES; k++) {
                boolean not = signs.isSign('-');
                if (k >= least && !not && !signs.isAnyWord()) {
                    return true;
                }
                if (not) {
                    signs.advance();
                }
                int variable = signs.variable();
                if (variable == NONE || clause.coefficients[variable] != 0) {
                    return wrongHere();
                }
                clause.putLit(variable, not);
                clause.told |= (variable + 1 | (not ? 8 : 0)) << 4 * k;
                signs.advance();
            }
            return wrongHere();
        }
    }

    /** Reads a claim. */
    private static final class ClaimReader extends TextReader {
        final Graph graph;

        ClaimReader(Signs signs) {
            super(signs);
            graph = new Graph();
        }

        boolean isSound(Line line) {
            return true;
        }

        Line readUpToStop() {
            if (signs.isWord("or")) {
                return readOr();
            }
            if (signs.isWord("sum")) {
                return readSum();
            }
            if (signs.isWord("source")) {
                return readSource();
            }
            if (signs.isWord("step")) {
                return readStep();
            }
            if (signs.isWord("sink") && graph.sink == NONE) {
                return readSink();
            }
            return noLine();
        }

        private Line readOr() {
            signs.advance();
            Line clause = new Line(AXIOM, false);
            return readLits(clause, 1) ? clause : null;
        }

        private Line readSum() {
            signs.advance();
            Line sum = new Line(AXIOM, true);
            for (int k = 0; k <= VARIABLES; k++) {
                if (k > 0 && signs.isWord("least")) {
                    return readBound(sum) ? sum : null;
                }
                if (!readTerm(sum)) {
                    return null;
                }
            }
            return noLine();
        }

        private boolean readTerm(Line sum) {
            int coefficient = readMinus() ? -1 : 1;
            if (signs.isAnyNumber()) {
                if (!signs.isNumber(1, 99)) {
                    return wrongHere();
                }
                coefficient *= signs.value;
                signs.advance();
            }
            int variable = signs.variable();
            if (variable == NONE || sum.coefficients[variable] != 0) {
                return wrongHere();
            }
            sum.coefficients[variable] = coefficient;
            signs.advance();
            return true;
        }

        private boolean readBound(Line sum) {
            signs.advance();
            boolean below = readMinus();
            if (!signs.isNumber(0, 99)) {
                return wrongHere();
            }
            sum.bound = below ? -signs.value : signs.value;
            signs.advance();
            return true;
        }

        private boolean readMinus() {
            boolean stands = signs.isSign('-');
            if (stands) {
                signs.advance();
            }
            return stands;
        }

        private Line readSource() {
            signs.advance();
            int variable = signs.variable();
            if (variable == NONE || graph.isNode(variable)) {
                return noLine();
            }
            signs.advance();
            graph.tellSource(variable);
            return clauseOf(variable, false);
        }

        private Line readStep() {
            signs.advance();
            int variable = signs.variable();
            if (variable == NONE || graph.isNode(variable)) {
                return noLine();
            }
            signs.advance();
            if (!signs.isWord("from")) {
                return noLine();
            }
            signs.advance();
            Line clause = clauseOf(variable, false);
            if (!readBehindFrom(clause)) {
                return null;
            }
            graph.tellStep(variable, clause.variablesOneWay(true));
            return clause;
        }

        /** The step's own variable is no node yet, so it is refused behind from too. */
        private boolean readBehindFrom(Line clause) {
            for (int k = 0; k < VARIABLES; k++) {
                if (k > 0 && !signs.isAnyWord()) {
                    return true;
                }
                int variable = signs.variable();
                boolean known = variable != NONE && graph.isNode(variable);
                if (!known || clause.coefficients[variable] != 0) {
                    return wrongHere();
                }
                clause.putLit(variable, true);
                signs.advance();
            }
            return wrongHere();
        }

        private Line readSink() {
            signs.advance();
            int variable = signs.variable();
            if (variable == NONE || !graph.isNode(variable)) {
                return noLine();
            }
            signs.advance();
            graph.sink = variable;
            return clauseOf(variable, true);
        }

        private static Line clauseOf(int variable, boolean not) {
            Line clause = new Line(AXIOM, false);
            clause.putLit(variable, not);
            return clause;
        }
    }

    /** Reads a proof behind the axioms of a book. */
    private static final class ProofReader extends TextReader {
        ProofReader(Signs signs, Book book) {
            super(signs);
            for (int k = 0; k < book.axioms; k++) {
                lines[k] = book.lines[k];
            }
            size = book.axioms;
        }

        boolean isSound(Line line) {
            if (line.how != CLAUSE) {
                return true;
            }
            Line from = lineOrNull(line.first);
            line.makeTable();
            return from != null && from.implies(line);
        }

        Line readUpToStop() {
            if (signs.isWord("res")) {
                return readRes();
            }
            if (signs.isWord("weak")) {
                return readWeak();
            }
            if (signs.isWord("low")) {
                return readLimit(LOW, 1, 0);
            }
            if (signs.isWord("top")) {
                return readLimit(TOP, -1, -1);
            }
            if (signs.isWord("plane")) {
                return readPlane();
            }
            if (signs.isWord("add")) {
                return readAdd();
            }
            if (signs.isWord("mul")) {
                return readMul();
            }
            if (signs.isWord("div")) {
                return readDiv();
            }
            return signs.isWord("clause") ? readClause() : noLine();
        }

        /** The number of a clause (or plane) ahead that stands here, NONE and a fault if none does. */
        private int numberAhead(boolean isPlane) {
            int number = signs.isNumber(0, size - 1) ? signs.value : NONE;
            Line line = lineOrNull(number);
            if (line == null || line.isPlane != isPlane) {
                wrongHere();
                return NONE;
            }
            return number;
        }

        /** A line begun with its word and the number of the one it comes from; null if that is wrong. */
        private Line readFrom(int how, boolean fromPlane, boolean isPlane) {
            signs.advance();
            int number = numberAhead(fromPlane);
            if (number == NONE) {
                return null;
            }
            signs.advance();
            Line line = new Line(how, isPlane);
            line.first = number;
            return line;
        }

        private Line readRes() {
            Line clause = readFrom(RES, false, false);
            if (clause == null) {
                return null;
            }
            clause.second = numberAhead(false);
            Line a = lineOrNull(clause.first);
            Line b = lineOrNull(clause.second);
            if (a == null || b == null) {
                return null;
            }
            signs.advance();
            clause.number = signs.variable();
            if (clause.number == NONE || !resolve(a, b, clause)) {
                return noLine();
            }
            signs.advance();
            return clause;
        }

        private static boolean resolve(Line a, Line b, Line clause) {
            int pivot = clause.number;
            if (a.coefficients[pivot] <= 0 || b.coefficients[pivot] >= 0) {
                return false;
            }
            for (int v = 0; v < VARIABLES; v++) {
                int both = a.coefficients[v] + b.coefficients[v];
                boolean stands = a.coefficients[v] != 0 || b.coefficients[v] != 0;
                if (v != pivot && stands) {
                    if (both == 0) {
                        return false;
                    }
                    clause.putLit(v, both < 0);
                }
            }
            return true;
        }

        private Line readWeak() {
            Line clause = readFrom(WEAK, false, false);
            Line from = clause == null ? null : lineOrNull(clause.first);
            if (from == null) {
                return null;
            }
            clause.copySaying(from);
            return readLits(clause, 1) ? clause : null;
        }

        private Line readLimit(int how, int coefficient, int bound) {
            signs.advance();
            int variable = signs.variable();
            if (variable == NONE) {
                return noLine();
            }
            signs.advance();
            Line plane = new Line(how, true);
            plane.number = variable;
            plane.coefficients[variable] = coefficient;
            plane.bound = bound;
            return plane;
        }

        private Line readPlane() {
            Line plane = readFrom(PLANE, false, true);
            Line from = plane == null ? null : lineOrNull(plane.first);
            if (from == null) {
                return null;
            }
            plane.copySaying(from);
            return plane;
        }

        private Line readAdd() {
            Line plane = readFrom(ADD, true, true);
            if (plane == null) {
                return null;
            }
            plane.second = numberAhead(true);
            Line a = lineOrNull(plane.first);
            Line b = lineOrNull(plane.second);
            if (a == null || b == null) {
                return null;
            }
            plane.addTimes(a, 1);
            plane.addTimes(b, 1);
            if (!plane.isWithinLimits()) {
                return noLine();
            }
            signs.advance();
            return plane;
        }

        private Line readMul() {
            Line plane = readFrom(MUL, true, true);
            Line from = plane == null ? null : lineOrNull(plane.first);
            if (from == null) {
                return null;
            }
            if (!signs.isNumber(1, 9)) {
                return noLine();
            }
            plane.number = signs.value;
            plane.addTimes(from, plane.number);
            if (!plane.isWithinLimits()) {
                return noLine();
            }
            signs.advance();
            return plane;
        }

        private Line readDiv() {
            Line plane = readFrom(DIV, true, true);
            Line from = plane == null ? null : lineOrNull(plane.first);
            if (from == null) {
                return null;
            }
            if (!signs.isNumber(2, 9) || !divide(from, signs.value, plane)) {
                return noLine();
            }
            signs.advance();
            return plane;
        }

        private static boolean divide(Line from, int divisor, Line plane) {
            if (divisor < 2) {
                return false;
            }
            for (int v = 0; v < VARIABLES; v++) {
                if (from.coefficients[v] % divisor != 0) {
                    return false;
                }
                plane.coefficients[v] = from.coefficients[v] / divisor;
            }
            plane.number = divisor;
            // The negated floor of the negated bound rounds up.
            plane.bound = -Math.floorDiv(-from.bound, divisor);
            return true;
        }

        private Line readClause() {
            Line clause = readFrom(CLAUSE, true, false);
            if (clause == null) {
                return null;
            }
            return readLits(clause, 0) ? clause : null;
        }
    }

    /** The nodes that a claim tells, and the pebbles on them. */
    private static final class Graph {
        int nodes;
        int sources;
        int sink;
        /** Of each node those behind its from. */
        final int[] behind;

        Graph() {
            sink = NONE;
            behind = new int[VARIABLES];
        }

        boolean isNode(int variable) {
            return (nodes >>> variable & 1) != 0;
        }

        void tellSource(int variable) {
            nodes |= 1 << variable;
            sources |= 1 << variable;
        }

        void tellStep(int variable, int from) {
            nodes |= 1 << variable;
            behind[variable] = from;
        }

        /** Goes through the 64 sets of pebbled nodes by how many moves reach them. */
        int fewestMoves(int p) {
            if (sink == NONE) {
                return NONE;
            }
            long seen = 1L;
            long front = 1L;
            for (int moves = 1; moves <= ALL_VALUES && front != 0; moves++) {
                front = oneMoveFrom(front, p) & ~seen;
                if (someHasSink(front)) {
                    return moves;
                }
                seen |= front;
            }
            return NONE;
        }

        private long oneMoveFrom(long front, int p) {
            long reached = 0;
            for (int pebbled = 0; pebbled < ALL_VALUES; pebbled++) {
                if ((front >>> pebbled & 1L) != 0) {
                    reached |= movesFrom(pebbled, p);
                }
            }
            return reached;
        }

        private long movesFrom(int pebbled, int p) {
            long reached = 0;
            for (int v = 0; v < VARIABLES; v++) {
                boolean takes = (pebbled >>> v & 1) != 0;
                boolean lays = (behind[v] & ~pebbled) == 0 && Integer.bitCount(pebbled) < p;
                if (isNode(v) && (takes || lays)) {
                    reached |= 1L << (pebbled ^ 1 << v);
                }
            }
            return reached;
        }

        private boolean someHasSink(long front) {
            for (int pebbled = 0; pebbled < ALL_VALUES; pebbled++) {
                if ((front >>> pebbled & 1L) != 0 && (pebbled >>> sink & 1) != 0) {
                    return true;
                }
            }
            return false;
        }
    }

    /** All clauses that resolution gives within a width. */
    private static final class Closure {
        private final int width;
        /** By the variables as V, a bit for each set of those as - V. */
        private final long[] there;
        /** The clauses in the order in which they came: those as V, and six bits higher those as - V. */
        private final int[] found;
        int size;
        int rounds;
        int emptyRound;
        boolean isBuilt;

        Closure(int width) {
            this.width = width;
            there = new long[ALL_VALUES];
            found = new int[MOST_CLAUSES];
        }

        boolean isThere(int ones, int noughts) {
            return (there[ones & ALL_VARIABLES] >>> noughts & 1L) != 0;
        }

        void build(Book book) {
            Arrays.fill(there, 0L);
            size = 0;
            rounds = 0;
            emptyRound = NONE;
            for (int k = 0; k < book.axioms; k++) {
                Line axiom = book.lines[k];
                if (!axiom.isPlane) {
                    put(axiom.variablesOneWay(false), axiom.variablesOneWay(true));
                }
            }
            goRounds();
            isBuilt = true;
        }

        /** Twos of which both were there a round ago have been tried already. */
        private void goRounds() {
            int seen = 0;
            for (int round = 1; round <= MOST_CLAUSES; round++) {
                int before = size;
                for (int k = seen; k < before; k++) {
                    for (int other = 0; other < k; other++) {
                        int clash = clashOf(found[k], found[other]);
                        // With two that clash, either res leaves the other one both ways.
                        if (clash != 0 && (clash & clash - 1) == 0) {
                            putWithout(found[k] | found[other], clash);
                        }
                    }
                }
                if (size == before) {
                    return;
                }
                rounds = round;
                if (emptyRound == NONE && isThere(0, 0)) {
                    emptyRound = round;
                }
                seen = before;
            }
        }

        /** The variables that stand as V in one clause and as - V in the other. */
        private static int clashOf(int a, int b) {
            return a & b >>> VARIABLES | b & a >>> VARIABLES;
        }

        private void putWithout(int lits, int variable) {
            int left = lits & ~(variable | variable << VARIABLES);
            if (Integer.bitCount(left) <= width) {
                put(left & ALL_VARIABLES, left >>> VARIABLES);
            }
        }

        private void put(int ones, int noughts) {
            if (!isThere(ones, noughts) && size < MOST_CLAUSES) {
                there[ones & ALL_VARIABLES] |= 1L << noughts;
                found[size] = ones | noughts << VARIABLES;
                size++;
            }
        }
    }

    /** What follows from some values by units alone. */
    private static final class Units {
        int ones;
        int noughts;
        boolean clash;

        Units(int ones, int noughts) {
            this.ones = ones;
            this.noughts = noughts;
        }

        /** Each turn but the last makes one of the variables known. */
        void spread(Book book) {
            for (int turn = 0; turn <= VARIABLES; turn++) {
                int known = ones | noughts;
                for (int k = 0; k < book.axioms && !clash; k++) {
                    follow(book.lines[k]);
                }
                if (clash || (ones | noughts) == known) {
                    return;
                }
            }
        }

        private void follow(Line axiom) {
            int best = bestSum(axiom);
            if (best < axiom.bound) {
                clash = true;
                return;
            }
            for (int v = 0; v < VARIABLES; v++) {
                int coefficient = axiom.coefficients[v];
                boolean open = ((ones | noughts) >>> v & 1) == 0;
                if (open && best - Math.abs(coefficient) < axiom.bound) {
                    fix(v, coefficient > 0);
                }
            }
        }

        private void fix(int variable, boolean one) {
            if (one) {
                ones |= 1 << variable;
            } else {
                noughts |= 1 << variable;
            }
        }

        /** The greatest sum that the open variables still allow. */
        private int bestSum(Line axiom) {
            int best = 0;
            for (int v = 0; v < VARIABLES; v++) {
                boolean open = ((ones | noughts) >>> v & 1) == 0;
                boolean isOne = (ones >>> v & 1) != 0;
                if (isOne || open && axiom.coefficients[v] > 0) {
                    best += axiom.coefficients[v];
                }
            }
            return best;
        }
    }

    /** Writes a text: one blank between, ; right behind each line. */
    private static final class Scribe {
        private byte[] text;
        int size;
        private boolean inLine;

        Scribe() {
            text = new byte[MOST_BYTES];
        }

        /** Starts anew; room is how many bytes may come at most. */
        void begin(int room) {
            size = 0;
            inLine = false;
            if (room > text.length) {
                // At least twice as long, so that texts that grow step by step need few new rows.
                text = new byte[Math.max(room, 2 * text.length)];
            }
        }

        void putWord(String word) {
            putGap();
            for (int k = 0; k < word.length(); k++) {
                putByte(word.charAt(k));
            }
        }

        /** Numbers of lines stay below 1000. */
        void putNumber(int number) {
            putGap();
            if (number >= 100) {
                putByte('0' + number / 100 % 10);
            }
            if (number >= 10) {
                putByte('0' + number / 10 % 10);
            }
            putByte('0' + number % 10);
        }

        void putVariable(int variable) {
            putGap();
            putByte('a' + variable);
        }

        void putLit(int variable, boolean not) {
            if (not) {
                putGap();
                putByte('-');
            }
            putVariable(variable);
        }

        void closeLine() {
            putByte(';');
            inLine = false;
        }

        private void putGap() {
            if (inLine) {
                putByte(' ');
            }
            inLine = true;
        }

        private void putByte(int sign) {
            if (size < text.length) {
                text[size] = (byte) sign;
                size++;
            }
        }

        int byteAt(int k) {
            return k >= 0 && k < size && k < text.length ? text[k] : NONE;
        }
    }

    /** Writes the lines that one needs, as they are or as planes. */
    private static final class Composer {
        /** As many as has "clause 55 - a - b - c - d - e - f;". */
        private static final int MOST_STEP_BYTES = 34;
        /** As many as has "add 100 200;". */
        private static final int MOST_PLANE_BYTES = 12;

        private final Scribe scribe;
        /** Of each line written as planes the number of the plane that says it. */
        private final int[] placed;
        private int nextNumber;

        Composer(Scribe scribe) {
            this.scribe = scribe;
            placed = new int[MOST_LINES];
        }

        void writeNeeded(Book book, long needed) {
            scribe.begin(Long.bitCount(needed) * MOST_STEP_BYTES);
            for (int k = book.axioms; k < book.size; k++) {
                if ((needed >>> k & 1L) != 0) {
                    writeStep(book, needed, book.lines[k]);
                }
            }
        }

        private void writeStep(Book book, long needed, Line line) {
            scribe.putWord(wordFor(line.how));
            if (line.first != NONE) {
                scribe.putNumber(numberAnew(book, needed, line.first));
            }
            if (line.second != NONE) {
                scribe.putNumber(numberAnew(book, needed, line.second));
            }
            if (line.how == RES || line.how == LOW || line.how == TOP) {
                scribe.putVariable(line.number);
            }
            if (line.how == MUL || line.how == DIV) {
                scribe.putNumber(line.number);
            }
            for (int k = 0; k < VARIABLES; k++) {
                int lit = line.told >>> 4 * k & 15;
                if (lit != 0) {
                    scribe.putLit((lit & 7) - 1, lit >= 8);
                }
            }
            scribe.closeLine();
        }

        private static int numberAnew(Book book, long needed, int line) {
            if (line < book.axioms) {
                return line;
            }
            long ahead = needed & ~book.axiomBits() & (1L << line) - 1;
            return book.axioms + Long.bitCount(ahead);
        }

        private static String wordFor(int how) {
            switch (how) {
                case RES:
                    return "res";
                case WEAK:
                    return "weak";
                case LOW:
                    return "low";
                case TOP:
                    return "top";
                case PLANE:
                    return "plane";
                case ADD:
                    return "add";
                case MUL:
                    return "mul";
                case DIV:
                    return "div";
                default:
                    return "clause";
            }
        }

        void writeAsPlanes(Book book, long needed) {
            scribe.begin(book.planeLinesFor(needed) * MOST_PLANE_BYTES);
            nextNumber = book.axioms;
            for (int k = 0; k < book.size; k++) {
                Line it = book.lines[k];
                if ((needed >>> k & 1L) == 0) {
                    continue;
                }
                if (it.how == WEAK) {
                    placed[k] = writeWeak(it);
                } else if (it.how == RES) {
                    placed[k] = writeRes(book, it);
                } else {
                    placed[k] = writeOf(PLANE, k, NONE);
                }
            }
        }

        private int writeWeak(Line line) {
            int sum = placed[line.first];
            for (int k = 0; k < VARIABLES; k++) {
                int lit = line.told >>> 4 * k & 15;
                if (lit != 0) {
                    sum = addLimit(sum, (lit & 7) - 1, lit >= 8);
                }
            }
            return sum;
        }

        /** Lits of both count twice in the sum, so the others are brought to two before it is halved. */
        private int writeRes(Book book, Line line) {
            int sum = writeOf(ADD, placed[line.first], placed[line.second]);
            if (book.litsInBoth(line) == 0) {
                return sum;
            }
            int others = book.litsInOne(line);
            for (int v = 0; v < VARIABLES; v++) {
                if ((others >>> v & 1) != 0) {
                    sum = addLimit(sum, v, line.coefficients[v] < 0);
                }
            }
            return writeOf(DIV, sum, 2);
        }

        /** Adds low V or top V to what is there. */
        private int addLimit(int sum, int variable, boolean not) {
            scribe.putWord(wordFor(not ? TOP : LOW));
            scribe.putVariable(variable);
            int limit = closeNumbered();
            return writeOf(ADD, sum, limit);
        }

        private int writeOf(int how, int a, int b) {
            scribe.putWord(wordFor(how));
            scribe.putNumber(a);
            if (b != NONE) {
                scribe.putNumber(b);
            }
            return closeNumbered();
        }

        private int closeNumbered() {
            scribe.closeLine();
            nextNumber++;
            return nextNumber - 1;
        }
    }
}
