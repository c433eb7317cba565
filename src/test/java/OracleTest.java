import java.util.List;
import java.util.Random;
import java.util.TreeMap;

/** Compares every answer with the oracle's, on claims and proofs by chance (always the same ones). */
public final class OracleTest {
    private static final String[] HOW =
        {"axiom", "res", "weak", "low", "top", "plane", "add", "mul", "div", "clause"};
    private static final String SIGNS = "abcdefg -;0123456789\n\tz";

    private final Random chance;
    private final PlaneProof x = new PlaneProof();
    private final Oracle due = new Oracle();
    private String heard = "";
    private int latestWritten = 0;

    private OracleTest(int seed) {
        chance = new Random(seed);
    }

    public static void main(String[] args) {
        int runs = args.length > 0 ? Integer.parseInt(args[0]) : 400;
        for (int seed = 0; seed < runs; seed++) {
            new OracleTest(seed).run();
        }
        Check.finish("OracleTest");
    }

    private void run() {
        for (int k = 0; k < 3; k++) {
            String claim = claimByChance();
            tellClaim(broken(claim));
            tellClaim(claim);
            askAboutTheClaim();
            String proof = proofByChance();
            tellProof(broken(proof));
            tellProof(proof);
            askAboutAllLines();
        }
    }

    private void same(String what, Object wanted, Object got) {
        if (!wanted.equals(got)) {
            Check.same(what + " of " + heard, wanted, got);
        }
    }

    // ---- texts by chance -----------------------------------------------------------------

    private String variable() {
        return "" + (char) ('a' + chance.nextInt(6));
    }

    private String gap() {
        return chance.nextInt(8) == 0 ? " \t" : " ";
    }

    private String lits(int most) {
        StringBuilder text = new StringBuilder();
        String left = "abcdef";
        for (int k = chance.nextInt(most) + 1; k > 0; k--) {
            int at = chance.nextInt(left.length());
            text.append(chance.nextBoolean() ? "-" : gap()).append(left.charAt(at));
            left = left.substring(0, at) + left.substring(at + 1);
        }
        return text.toString();
    }

    private String axiomByChance() {
        switch (chance.nextInt(9)) {
            case 0:
            case 1:
            case 2:
                return "or" + lits(3) + ";";
            case 3:
                return "source " + variable() + ";";
            case 4:
            case 5:
                return "step " + variable() + " from" + lits(2).replace('-', ' ') + ";";
            case 6:
                return "sink " + variable() + ";";
            default:
                String terms = lits(4);
                StringBuilder sum = new StringBuilder("sum");
                for (char c : terms.toCharArray()) {
                    boolean letter = c >= 'a' && c <= 'f';
                    sum.append(letter && chance.nextInt(3) > 0 ? " " + (1 + chance.nextInt(6)) : "").append(c);
                }
                return sum + " least " + (chance.nextBoolean() ? "-" : "") + chance.nextInt(7) + ";";
        }
    }

    private String claimByChance() {
        Oracle trial = new Oracle();
        StringBuilder text = new StringBuilder();
        for (int k = chance.nextInt(26); k > 0; k--) {
            String next = axiomByChance();
            if (text.length() + next.length() <= 400 && trial.claim(text + next) < 0) {
                text.append(next);
            }
        }
        return text.toString();
    }

    private String stepByChance(int lines) {
        String a = gap() + chance.nextInt(lines + 1);
        String b = gap() + chance.nextInt(lines + 1);
        switch (chance.nextInt(14)) {
            case 0:
            case 1:
            case 2:
            case 3:
                return "res" + a + b + variable() + ";";
            case 4:
                return "weak" + a + lits(2) + ";";
            case 5:
                return "low " + variable() + ";";
            case 6:
                return "top " + variable() + ";";
            case 7:
                return "plane" + a + ";";
            case 8:
            case 9:
                return "add" + a + b + ";";
            case 10:
                return "mul" + a + gap() + chance.nextInt(10) + ";";
            case 11:
                return "div" + a + " 0" + chance.nextInt(10) + ";";
            default:
                return "clause" + a + (chance.nextInt(4) == 0 ? "" : lits(5)) + ";";
        }
    }

    private String proofByChance() {
        StringBuilder text = new StringBuilder();
        due.proof("");
        for (int k = chance.nextInt(250); k > 0; k--) {
            String next = stepByChance(due.lines.size());
            if (text.length() + next.length() <= 400 && due.proof(text + next) < 0) {
                text.append(next);
            }
        }
        due.proof("");
        x.end(0);
        x.proof();
        return text.toString();
    }

    /** The text with one sign put in, taken out or changed, or cut off, or with a line more. */
    private String broken(String text) {
        int at = chance.nextInt(text.length() + 1);
        String sign = "" + SIGNS.charAt(chance.nextInt(SIGNS.length()));
        String behind = text.substring(Math.min(at + 1, text.length()));
        switch (chance.nextInt(5)) {
            case 0:
                return text.substring(0, at) + behind;
            case 1:
                return text.substring(0, at) + sign + behind;
            case 2:
                return text.substring(0, at);
            case 3:
                return most(text + axiomByChance());
            default:
                return most(text.substring(0, at) + sign + text.substring(at));
        }
    }

    private static String most(String text) {
        return text.substring(0, Math.min(400, text.length()));
    }

    // ---- comparing -----------------------------------------------------------------------

    private void tellClaim(String text) {
        heard = text;
        int fault = due.claim(text);
        Check.tape(x, text);
        same("claim", fault < 0 ? "" + due.axioms : "IllegalArgumentException", Check.outcome(x::claim));
        same("fault", fault, x.fault());
        same("count 1", due.lines.size(), x.count(1));
    }

    private void tellProof(String text) {
        heard = text;
        int fault = due.proof(text);
        Check.tape(x, text);
        same("proof", fault < 0 ? "" + (due.lines.size() - due.axioms) : "IllegalArgumentException", Check.outcome(x::proof));
        same("fault", fault, x.fault());
        same("count 1", due.lines.size(), x.count(1));
    }

    private void askAboutTheClaim() {
        int all = (1 << due.axioms) - 1;
        List<Integer> models = due.models(all);
        same("model", models.size(), x.model(-1));
        for (int k = 0; k <= 64; k++) {
            same("model", k < models.size() ? models.get(k) : -1, x.model(k));
        }
        for (int k = 0; k < due.axioms; k++) {
            same("without", due.models(all & ~(1 << k)).size(), x.without(k));
        }
        int core = due.core();
        same("core", core, x.core(true));
        same("core", core < 0 ? -1 : Integer.bitCount(core), x.core(false));
        for (int k = 0; k < 40; k++) {
            int ones = chance.nextInt(64) & chance.nextInt(64);
            int noughts = chance.nextInt(64) & chance.nextInt(64) & ~ones;
            for (int what = 0; what < 3; what++) {
                same("units", due.units(ones, noughts)[what], x.units(ones, noughts, what));
            }
        }
        askAboutWidths();
        askAboutTheGraph();
    }

    private void askAboutWidths() {
        int least = -1;
        for (int width = 6; width >= 0; width--) {
            TreeMap<String, Integer> came = due.within(width);
            int rounds = came.values().stream().max(Integer::compare).orElse(0);
            same("within 0", came.size(), x.within(width, 0));
            same("within 1", rounds, x.within(width, 1));
            same("within 2", came.getOrDefault("{}", -1), x.within(width, 2));
            least = came.containsKey("{}") ? width : least;
            for (int k = 0; k < 40; k++) {
                int ones = chance.nextInt(64) & chance.nextInt(64) & chance.nextInt(64);
                int noughts = chance.nextInt(64) & chance.nextInt(64) & chance.nextInt(64) & ~ones;
                same("has", came.containsKey(clause(ones, noughts)), x.has(width, ones, noughts));
            }
        }
        same("leastWidth", least, x.leastWidth());
    }

    private static String clause(int ones, int noughts) {
        TreeMap<Integer, Boolean> lits = new TreeMap<>();
        for (int v = 0; v < 6; v++) {
            if (((ones | noughts) >> v & 1) != 0) {
                lits.put(v, (noughts >> v & 1) != 0);
            }
        }
        return lits.toString();
    }

    private void askAboutTheGraph() {
        int nodes = 0;
        int sources = 0;
        for (int v = 0; v < 6; v++) {
            int what = 10 + v;
            if (due.nodes.containsKey(v)) {
                nodes |= 1 << v;
                sources |= due.nodes.get(v).isEmpty() ? 1 << v : 0;
                int behind = due.nodes.get(v).stream().mapToInt(u -> 1 << u).sum();
                same("node", behind, x.node(what));
            } else {
                same("node", "NoSuchElementException", Check.outcome(() -> x.node(what)));
            }
        }
        same("node 0", nodes, x.node(0));
        same("node 1", sources, x.node(1));
        same("node 2", due.sink, x.node(2));
        int least = -1;
        for (int p = 6; p >= 0; p--) {
            same("pebbled", due.pebbled(p), x.pebbled(p));
            least = due.pebbled(p) >= 0 ? p : least;
        }
        same("pebbles", least, x.pebbles());
    }

    private void askAboutAllLines() {
        int refuting = -1;
        int[] counts = new int[11];
        counts[0] = due.axioms;
        counts[1] = due.lines.size();
        counts[9] = due.models((1 << due.axioms) - 1).size();
        for (int k = due.lines.size() - 1; k >= 0; k--) {
            Oracle.Said it = due.lines.get(k);
            refuting = it.isNought() ? k : refuting;
            counts[it.plane == null ? 2 : 3]++;
            counts[4] += it.how.equals("res") ? 1 : 0;
            counts[5] += it.how.equals("add") ? 1 : 0;
            counts[6] += it.how.equals("div") ? 1 : 0;
            counts[7] += it.how.equals("clause") ? 1 : 0;
            counts[10] += k >= due.axioms && usersOf(k) == 0 ? 1 : 0;
            askWhatItSays(k, it);
            askWhatItNeeds(k, it);
            askForTexts(k);
        }
        same("refutes", refuting, x.refutes());
        counts[8] = latestWritten;
        for (int what = 0; what < counts.length; what++) {
            same("count " + what, counts[what], x.count(what));
        }
        askAboutVariables();
    }

    private int usersOf(int line) {
        return (int) due.lines.stream().filter(it -> it.from.contains(line)).count();
    }

    private void askWhatItSays(int k, Oracle.Said it) {
        same("line 1", it.plane == null ? 0 : 1, x.line(k, 1));
        same("line 5", it.isNought() ? 1 : 0, x.line(k, 5));
        int often = 0;
        for (int values = 0; values < 64; values++) {
            same("holds", it.holds(values), x.holds(k, values));
            int at = values;
            same("slack", it.slack(values), x.slack(k, at));
            often += it.holds(values) ? 1 : 0;
        }
        same("often", often, x.often(k));
        int cut = 0;
        for (int v = 0; v < 6; v++) {
            int variable = v;
            same("plane", it.plane == null ? "NoSuchElementException" : "" + it.plane[v], Check.outcome(() -> x.plane(k, variable)));
            cut = it.plane == null ? 0 : java.math.BigInteger.valueOf(cut).gcd(java.math.BigInteger.valueOf(it.plane[v])).intValue();
        }
        same("plane", it.plane == null ? "NoSuchElementException" : "" + it.plane[6], Check.outcome(() -> x.plane(k, -1)));
        same("cut", it.plane == null ? "NoSuchElementException" : "" + cut, Check.outcome(() -> x.cut(k)));
        same("lits", it.plane != null ? "NoSuchElementException" : clauseOf(it), Check.outcome(() -> clause(x.lits(k, false), x.lits(k, true))));
        int first = k;
        for (int other = due.lines.size() - 1; other >= 0; other--) {
            Oracle.Said that = due.lines.get(other);
            same("gives", Oracle.implied(it, that), x.gives(k, other));
            boolean alike = (it.plane == null) == (that.plane == null) && it.text().equals(that.text());
            first = alike ? Math.min(first, other) : first;
        }
        same("same", first, x.same(k));
    }

    private static String clauseOf(Oracle.Said it) {
        return it.lits.toString();
    }

    private void askWhatItNeeds(int k, Oracle.Said it) {
        same("line 0", it.how, HOW[x.line(k, 0)]);
        same("line 2", it.from.size() > 0 ? it.from.get(0) : -1, x.line(k, 2));
        same("line 3", it.from.size() > 1 ? it.from.get(1) : -1, x.line(k, 3));
        same("line 4", it.how.equals("res") ? it.variable : -1, x.line(k, 4));
        int rests = 0;
        for (int other = 0; other < due.lines.size(); other++) {
            boolean needs = due.needed(k).contains(other);
            same("needs", needs, x.needs(k, other));
            rests |= needs && other < due.axioms ? 1 << other : 0;
        }
        same("rests", rests, x.rests(k));
        same("uses", usersOf(k), x.uses(k));
        same("tree", due.tree(k), x.tree(k));
        same("length", due.neededSteps(k).size(), x.measure(k, 0));
        same("width", due.width(k), x.measure(k, 1));
        same("depth", due.depth(k), x.measure(k, 2));
        same("keeps", due.keeps(k), x.measure(k, 3));
        same("regular", due.regular(k) ? 1 : 0, x.measure(k, 4));
    }

    private void askForTexts(int k) {
        List<String> planes = due.asPlanes(k);
        String text = planes == null ? "" : String.join("", planes);
        same("translated", planes == null ? "IllegalStateException" : "" + planes.size(), Check.outcome(() -> x.translated(k)));
        same("translate", planes == null ? "IllegalStateException" : "" + text.length(), Check.outcome(() -> x.translate(k)));
        if (planes != null) {
            same("octets", text, Check.written(x));
        }
        String trimmed = due.trimmed(k);
        same("trim", trimmed.length(), x.trim(k));
        same("octets", trimmed, Check.written(x));
        latestWritten = trimmed.length();
    }

    private void askAboutVariables() {
        int up = 0;
        int down = 0;
        for (int v = 0; v < 6; v++) {
            int[] stands = new int[2];
            for (int k = 0; k < due.lines.size(); k++) {
                int way = due.lines.get(k).way(v);
                stands[k < due.axioms ? 0 : 1] += way != 0 ? 1 : 0;
                up |= k < due.axioms && way > 0 ? 1 << v : 0;
                down |= k < due.axioms && way < 0 ? 1 << v : 0;
            }
            same("stands", stands[0], x.stands(v, false));
            same("stands", stands[1], x.stands(v, true));
        }
        same("pure", up & ~down, x.pure(false));
        same("pure", down & ~up, x.pure(true));
    }
}
