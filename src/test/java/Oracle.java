import java.util.ArrayList;
import java.util.HashSet;
import java.util.List;
import java.util.Set;
import java.util.TreeMap;
import java.util.TreeSet;
import java.util.regex.Matcher;
import java.util.regex.Pattern;

/** The document once more, as plainly and slowly as can be: what OracleTest compares the class with. */
final class Oracle {
    static final class Said {
        String how = "axiom";
        /** A clause: each variable with whether it is told as - V. Null of a plane. */
        TreeMap<Integer, Boolean> lits;
        /** A plane: six coefficients and the bound. Null of a clause. */
        int[] plane;
        final List<Integer> from = new ArrayList<>();
        int variable = -1;
        int number = -1;
        final List<Integer> told = new ArrayList<>();

        boolean holds(int values) {
            if (plane != null) {
                return slack(values) >= 0;
            }
            for (int v : lits.keySet()) {
                if (lits.get(v) == ((values >> v & 1) == 0)) {
                    return true;
                }
            }
            return false;
        }

        int slack(int values) {
            int[] p = plane != null ? plane : planeOf(lits);
            int sum = -p[6];
            for (int v = 0; v < 6; v++) {
                sum += p[v] * (values >> v & 1);
            }
            return sum;
        }

        int way(int v) {
            if (plane != null) {
                return Integer.signum(plane[v]);
            }
            return !lits.containsKey(v) ? 0 : lits.get(v) ? -1 : 1;
        }

        boolean isNought() {
            for (int v = 0; v < 6; v++) {
                if (way(v) != 0) {
                    return false;
                }
            }
            return plane == null || plane[6] >= 1;
        }

        String text() {
            return plane == null ? lits.toString() : java.util.Arrays.toString(plane);
        }
    }

    /** Thrown at a wrong byte. */
    static final class Wrong extends RuntimeException {
        private static final long serialVersionUID = 1L;
        final int at;

        Wrong(int at) {
            this.at = at;
        }
    }

    static int[] planeOf(TreeMap<Integer, Boolean> lits) {
        int[] p = new int[7];
        p[6] = 1;
        for (int v : lits.keySet()) {
            p[v] = lits.get(v) ? -1 : 1;
            p[6] -= lits.get(v) ? 1 : 0;
        }
        return p;
    }

    List<Said> lines = new ArrayList<>();
    int axioms = 0;
    TreeMap<Integer, Set<Integer>> nodes = new TreeMap<>();
    int sink = -1;

    // ---- reading -------------------------------------------------------------------------

    private static final Pattern PIECE = Pattern.compile("[a-z]+|[0-9]+|[^\\t\\n ]", Pattern.DOTALL);

    private final List<String> pieces = new ArrayList<>();
    private final List<Integer> places = new ArrayList<>();
    private int here;

    private void cut(String text) {
        pieces.clear();
        places.clear();
        Matcher m = PIECE.matcher(text);
        while (m.find()) {
            pieces.add(m.group());
            places.add(m.start());
        }
        pieces.add("");
        places.add(text.length());
        here = 0;
    }

    private Wrong wrong() {
        return new Wrong(places.get(here));
    }

    private String piece() {
        return pieces.get(here);
    }

    private void expect(String word) {
        if (!piece().equals(word)) {
            throw wrong();
        }
        here++;
    }

    private boolean take(String word) {
        boolean is = piece().equals(word);
        here += is ? 1 : 0;
        return is;
    }

    private int number(int least, int most) {
        if (!piece().matches("[0-9]{1,2}") || Integer.parseInt(piece()) < least || Integer.parseInt(piece()) > most) {
            throw wrong();
        }
        return Integer.parseInt(pieces.get(here++));
    }

    private int variable(Set<Integer> allowed) {
        if (!piece().matches("[a-f]") || !allowed.contains(piece().charAt(0) - 'a')) {
            throw wrong();
        }
        return pieces.get(here++).charAt(0) - 'a';
    }

    private static Set<Integer> others(Set<Integer> not) {
        Set<Integer> all = new TreeSet<>(List.of(0, 1, 2, 3, 4, 5));
        all.removeAll(not);
        return all;
    }

    private boolean litHere() {
        return piece().equals("-") || piece().matches("[a-z]+");
    }

    private void lit(Said line) {
        boolean not = take("-");
        int v = variable(others(line.lits.keySet()));
        line.lits.put(v, not);
        line.told.add(not ? -1 - v : v);
    }

    /** The fault, -1 without one. */
    int claim(String text) {
        Oracle next = new Oracle();
        int fault = next.readClaim(text);
        if (fault < 0) {
            lines = next.lines;
            axioms = lines.size();
            nodes = next.nodes;
            sink = next.sink;
        }
        return fault;
    }

    private int readClaim(String text) {
        cut(text);
        try {
            while (!piece().isEmpty()) {
                if (lines.size() == 16) {
                    throw wrong();
                }
                Said line = axiom();
                expect(";");
                lines.add(line);
            }
            return -1;
        } catch (Wrong e) {
            return e.at;
        }
    }

    private Said axiom() {
        Said line = new Said();
        if (piece().equals("sum")) {
            sum(line);
            return line;
        }
        line.lits = new TreeMap<>();
        if (take("or")) {
            do {
                lit(line);
            } while (litHere());
        } else if (take("source")) {
            int v = variable(others(nodes.keySet()));
            line.lits.put(v, false);
            nodes.put(v, new TreeSet<>());
        } else if (take("step")) {
            int v = variable(others(nodes.keySet()));
            expect("from");
            Set<Integer> left = new TreeSet<>(nodes.keySet());
            Set<Integer> behind = new TreeSet<>();
            do {
                int u = variable(left);
                left.remove(u);
                behind.add(u);
                line.lits.put(u, true);
            } while (piece().matches("[a-z]+"));
            line.lits.put(v, false);
            nodes.put(v, behind);
        } else if (sink < 0 && take("sink")) {
            sink = variable(nodes.keySet());
            line.lits.put(sink, true);
        } else {
            throw wrong();
        }
        return line;
    }

    private void sum(Said line) {
        expect("sum");
        line.plane = new int[7];
        Set<Integer> left = others(Set.of());
        do {
            int sign = take("-") ? -1 : 1;
            int n = piece().matches("[0-9]+") ? number(1, 99) : 1;
            int v = variable(left);
            left.remove(v);
            line.plane[v] = sign * n;
        } while (!piece().equals("least") && (litHere() || piece().matches("[0-9]+")));
        expect("least");
        int sign = take("-") ? -1 : 1;
        line.plane[6] = sign * number(0, 99);
    }

    int proof(String text) {
        List<Said> before = lines;
        lines = new ArrayList<>(lines.subList(0, axioms));
        cut(text);
        try {
            while (!piece().isEmpty()) {
                if (lines.size() == axioms + 40) {
                    throw wrong();
                }
                int word = places.get(here);
                Said line = step();
                if (!piece().equals(";")) {
                    throw wrong();
                }
                if (line.how.equals("clause") && !implied(lines.get(line.from.get(0)), line)) {
                    throw new Wrong(word);
                }
                here++;
                lines.add(line);
            }
            return -1;
        } catch (Wrong e) {
            lines = before;
            return e.at;
        }
    }

    private Said ahead(Said line, boolean plane) {
        int at = here;
        int n = number(0, lines.size() - 1);
        if ((lines.get(n).plane != null) != plane) {
            here = at;
            throw wrong();
        }
        line.from.add(n);
        return lines.get(n);
    }

    private void backUnless(boolean right) {
        if (!right) {
            here--;
            throw wrong();
        }
    }

    private Said step() {
        Said line = new Said();
        line.how = piece();
        if (take("res")) {
            Said a = ahead(line, false);
            Said b = ahead(line, false);
            line.variable = variable(others(Set.of()));
            backUnless(a.way(line.variable) == 1 && b.way(line.variable) == -1);
            line.lits = new TreeMap<>(a.lits);
            line.lits.remove(line.variable);
            for (int v : b.lits.keySet()) {
                if (v != line.variable) {
                    backUnless(a.way(v) != -b.way(v));
                    line.lits.put(v, b.lits.get(v));
                }
            }
        } else if (take("weak")) {
            line.lits = new TreeMap<>(ahead(line, false).lits);
            do {
                lit(line);
            } while (litHere());
        } else if (take("clause")) {
            ahead(line, true);
            line.lits = new TreeMap<>();
            while (litHere()) {
                lit(line);
            }
        } else {
            planeStep(line);
        }
        return line;
    }

    private void planeStep(Said line) {
        line.plane = new int[7];
        if (take("low")) {
            line.variable = variable(others(Set.of()));
            line.plane[line.variable] = 1;
        } else if (take("top")) {
            line.variable = variable(others(Set.of()));
            line.plane[line.variable] = -1;
            line.plane[6] = -1;
        } else if (take("plane")) {
            line.plane = planeOf(ahead(line, false).lits);
        } else if (take("add")) {
            Said a = ahead(line, true);
            Said b = ahead(line, true);
            for (int k = 0; k < 7; k++) {
                line.plane[k] = a.plane[k] + b.plane[k];
            }
            backUnless(inLimits(line.plane));
        } else if (take("mul")) {
            Said a = ahead(line, true);
            line.number = number(1, 9);
            for (int k = 0; k < 7; k++) {
                line.plane[k] = a.plane[k] * line.number;
            }
            backUnless(inLimits(line.plane));
        } else if (take("div")) {
            Said a = ahead(line, true);
            line.number = number(2, 9);
            for (int k = 0; k < 6; k++) {
                line.plane[k] = a.plane[k] / line.number;
                backUnless(line.plane[k] * line.number == a.plane[k]);
            }
            line.plane[6] = (int) Math.ceil(a.plane[6] / (double) line.number);
        } else {
            throw wrong();
        }
    }

    private static boolean inLimits(int[] plane) {
        for (int k = 0; k < 6; k++) {
            if (plane[k] > 999 || plane[k] < -999) {
                return false;
            }
        }
        return plane[6] <= 9999 && plane[6] >= -9999;
    }

    static boolean implied(Said from, Said line) {
        for (int values = 0; values < 64; values++) {
            if (from.holds(values) && !line.holds(values)) {
                return false;
            }
        }
        return true;
    }

    // ---- asking --------------------------------------------------------------------------

    List<Integer> models(int bits) {
        List<Integer> found = new ArrayList<>();
        for (int values = 0; values < 64; values++) {
            boolean all = true;
            for (int k = 0; k < axioms; k++) {
                all &= (bits >> k & 1) == 0 || lines.get(k).holds(values);
            }
            if (all) {
                found.add(values);
            }
        }
        return found;
    }

    /** All sets of axioms, one after another; each holds what its set without the lowest one leaves. */
    int core() {
        long[] each = new long[axioms];
        for (int k = 0; k < axioms; k++) {
            each[k] = valuesOf(lines.get(k));
        }
        long[] left = new long[1 << axioms];
        left[0] = -1L;
        int best = -1;
        for (int bits = 1; bits < 1 << axioms; bits++) {
            int lowest = Integer.numberOfTrailingZeros(bits);
            left[bits] = left[bits & bits - 1] & each[lowest];
            boolean fewer = best < 0 || Integer.bitCount(bits) < Integer.bitCount(best);
            best = left[bits] == 0 && fewer ? bits : best;
        }
        return best;
    }

    private static long valuesOf(Said line) {
        long bits = 0;
        for (int values = 0; values < 64; values++) {
            bits |= line.holds(values) ? 1L << values : 0;
        }
        return bits;
    }

    TreeSet<Integer> needed(int line) {
        TreeSet<Integer> all = new TreeSet<>();
        all.add(line);
        for (int from : lines.get(line).from) {
            all.addAll(needed(from));
        }
        return all;
    }

    List<Integer> neededSteps(int line) {
        return new ArrayList<>(needed(line).tailSet(axioms));
    }

    int width(int line) {
        int most = 0;
        for (int k : needed(line)) {
            most = lines.get(k).lits == null ? most : Math.max(most, lines.get(k).lits.size());
        }
        return most;
    }

    int depth(int line) {
        int most = 0;
        for (int from : lines.get(line).from) {
            most = Math.max(most, 1 + depth(from));
        }
        return most;
    }

    long tree(int line) {
        long sum = 1;
        for (int from : lines.get(line).from) {
            sum += tree(from);
        }
        return sum;
    }

    int keeps(int line) {
        List<Integer> steps = neededSteps(line);
        Set<Integer> kept = new HashSet<>();
        int most = 0;
        for (int at = 0; at < steps.size(); at++) {
            kept.add(steps.get(at));
            most = Math.max(most, kept.size());
            for (int k : new ArrayList<>(kept)) {
                boolean usedLater = k == steps.get(at) && k == line;
                for (int later = at + 1; later < steps.size(); later++) {
                    usedLater |= lines.get(steps.get(later)).from.contains(k);
                }
                if (!usedLater) {
                    kept.remove(k);
                }
            }
        }
        return most;
    }

    boolean regular(int line) {
        for (int k : needed(line)) {
            for (int m : needed(k)) {
                Said a = lines.get(k);
                Said b = lines.get(m);
                if (k != m && a.how.equals("res") && b.how.equals("res") && a.variable == b.variable) {
                    return false;
                }
            }
        }
        return true;
    }

    /** Ones, noughts, clash. */
    int[] units(int ones, int noughts) {
        int[] now = {ones, noughts, 0};
        boolean again = true;
        while (again) {
            again = false;
            for (int k = 0; k < axioms; k++) {
                if (!canHold(lines.get(k), now[0], now[1])) {
                    now[2] = 1;
                    return now;
                }
                for (int v = 0; v < 6; v++) {
                    if (((now[0] | now[1]) >> v & 1) == 0) {
                        boolean one = canHold(lines.get(k), now[0] | 1 << v, now[1]);
                        boolean nought = canHold(lines.get(k), now[0], now[1] | 1 << v);
                        if (one != nought) {
                            now[one ? 0 : 1] |= 1 << v;
                            again = true;
                        }
                    }
                }
            }
        }
        return now;
    }

    private static boolean canHold(Said line, int ones, int noughts) {
        for (int values = 0; values < 64; values++) {
            if ((values & ones) == ones && (values & noughts) == 0 && line.holds(values)) {
                return true;
            }
        }
        return false;
    }

    /** The clauses with the round in which each came. */
    TreeMap<String, Integer> within(int width) {
        TreeMap<String, Integer> came = new TreeMap<>();
        List<TreeMap<Integer, Boolean>> all = new ArrayList<>();
        for (int k = 0; k < axioms; k++) {
            if (lines.get(k).lits != null && came.putIfAbsent(lines.get(k).lits.toString(), 0) == null) {
                all.add(lines.get(k).lits);
            }
        }
        int before = -1;
        for (int round = 1; before != all.size(); round++) {
            before = all.size();
            for (int i = 0; i < before; i++) {
                for (int j = 0; j < before; j++) {
                    for (int v = 0; v < 6; v++) {
                        TreeMap<Integer, Boolean> c = resolvent(all.get(i), all.get(j), v);
                        if (c != null && c.size() <= width && came.putIfAbsent(c.toString(), round) == null) {
                            all.add(c);
                        }
                    }
                }
            }
        }
        return came;
    }

    private static TreeMap<Integer, Boolean> resolvent(TreeMap<Integer, Boolean> a, TreeMap<Integer, Boolean> b, int v) {
        if (!Boolean.FALSE.equals(a.get(v)) || !Boolean.TRUE.equals(b.get(v))) {
            return null;
        }
        TreeMap<Integer, Boolean> c = new TreeMap<>(a);
        c.remove(v);
        for (int u : b.keySet()) {
            if (u != v) {
                if (c.containsKey(u) && !c.get(u).equals(b.get(u))) {
                    return null;
                }
                c.put(u, b.get(u));
            }
        }
        return c;
    }

    int pebbled(int p) {
        if (sink < 0) {
            return -1;
        }
        Set<Set<Integer>> seen = new HashSet<>();
        Set<Set<Integer>> front = new HashSet<>();
        front.add(new TreeSet<>());
        for (int moves = 0; !front.isEmpty(); moves++) {
            Set<Set<Integer>> next = new HashSet<>();
            for (Set<Integer> laid : front) {
                if (laid.contains(sink)) {
                    return moves;
                }
                for (int v : nodes.keySet()) {
                    Set<Integer> then = new TreeSet<>(laid);
                    if (!then.remove(v) && laid.size() < p && laid.containsAll(nodes.get(v))) {
                        then.add(v);
                    }
                    if (seen.add(then)) {
                        next.add(then);
                    }
                }
            }
            front = next;
        }
        return -1;
    }

    String trimmed(int line) {
        List<Integer> steps = neededSteps(line);
        StringBuilder text = new StringBuilder();
        for (int k : steps) {
            Said it = lines.get(k);
            List<String> parts = new ArrayList<>(List.of(it.how));
            for (int from : it.from) {
                parts.add("" + (from < axioms ? from : axioms + steps.indexOf(from)));
            }
            if (it.variable >= 0) {
                parts.add(name(it.variable));
            }
            if (it.number >= 0) {
                parts.add("" + it.number);
            }
            for (int lit : it.told) {
                parts.add(lit < 0 ? "- " + name(-1 - lit) : name(lit));
            }
            text.append(String.join(" ", parts)).append(';');
        }
        return text.toString();
    }

    private static String name(int v) {
        return "" + (char) ('a' + v);
    }

    /** Null: it cannot be. */
    List<String> asPlanes(int line) {
        List<String> text = new ArrayList<>();
        TreeMap<Integer, Integer> at = new TreeMap<>();
        for (int k : needed(line)) {
            Said it = lines.get(k);
            if (it.lits == null || it.how.equals("clause")) {
                return null;
            }
            if (it.how.equals("axiom")) {
                text.add("plane " + k + ";");
            } else if (it.how.equals("weak")) {
                int sum = at.get(it.from.get(0));
                for (int lit : it.told) {
                    sum = addLimit(text, sum, lit < 0 ? -1 - lit : lit, lit < 0);
                }
            } else {
                TreeMap<Integer, Boolean> a = lines.get(it.from.get(0)).lits;
                TreeMap<Integer, Boolean> b = lines.get(it.from.get(1)).lits;
                text.add("add " + at.get(it.from.get(0)) + " " + at.get(it.from.get(1)) + ";");
                Set<Integer> both = new TreeSet<>(it.lits.keySet());
                both.removeIf(v -> !a.containsKey(v) || !b.containsKey(v));
                if (!both.isEmpty()) {
                    int sum = axioms + text.size() - 1;
                    for (int v : it.lits.keySet()) {
                        sum = both.contains(v) ? sum : addLimit(text, sum, v, it.lits.get(v));
                    }
                    text.add("div " + sum + " 2;");
                }
            }
            at.put(k, axioms + text.size() - 1);
        }
        return text;
    }

    private int addLimit(List<String> text, int sum, int v, boolean not) {
        text.add((not ? "top " : "low ") + name(v) + ";");
        text.add("add " + sum + " " + (axioms + text.size() - 1) + ";");
        return axioms + text.size() - 1;
    }
}
