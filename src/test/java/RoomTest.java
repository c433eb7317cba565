import com.sun.management.ThreadMXBean;
import java.lang.management.ManagementFactory;

/**
 * What a run of 512 calls makes. The room has some 600,000 objects and arrays, 7.3 million fields and
 * elements; an object takes 16 bytes at least and an element one, so 7.3 million bytes keep within both.
 * A seventh of that is asked for here, as a room may have several runs. What the test itself makes
 * between the calls is counted too: more than is due, not less.
 */
public final class RoomTest {
    private static final int CALLS = 512;
    private static final long MOST_BYTES = 1_000_000;
    private static final ThreadMXBean MEMORY = (ThreadMXBean) ManagementFactory.getThreadMXBean();

    private static PlaneProof x;
    private static int left;

    private interface Turn {
        /** Some calls by way of the methods below; it is asked again until none is left. */
        void go();
    }

    public static void main(String[] args) {
        Check.yes("what is made can be measured", MEMORY.isThreadAllocatedMemorySupported());
        texts();
        questions();
        Check.finish("RoomTest");
    }

    private static void texts() {
        run("claims without bytes", RoomTest::claim);
        run("proofs without bytes", RoomTest::proof);
        int[] fourAxioms = numbers("or a;or b;or c;or d;");
        run("claims of twenty bytes", () -> {
            feed(fourAxioms);
            claim();
        });
        int[] mostAxioms = numbers("or a;".repeat(16));
        run("claims of sixteen axioms", () -> {
            feed(mostAxioms);
            claim();
        });
        int[] mostSteps = numbers("low a;".repeat(40));
        run("proofs of forty lines", () -> {
            feed(mostSteps);
            proof();
        });
        int[] wrong = numbers("or a;or b;or c;or g;");
        run("wrong claims", () -> {
            feed(wrong);
            claim();
        });
    }

    private static void questions() {
        int[] wide = numbers("or a b c;or - a d;or - b e;or - c f;or - d - e;or - f a;or b - d;or c - e;");
        run("widths of one claim after another", () -> {
            feed(wide);
            claim();
            for (int width = 0; width <= 6; width++) {
                int asked = width;
                ask(() -> x.within(asked, 0));
            }
            ask(() -> x.core(true));
        });
        run("units", () -> ask(() -> x.units(0, 0, 2)));
        run("pebbles", () -> ask(() -> x.pebbled(6)));
        int[] axioms = numbers("or a b;or - a c;");
        int[] weak = numbers("weak 0 - f - e - d;".repeat(20));
        run("texts that grow", () -> {
            feed(axioms);
            claim();
            feed(weak);
            proof();
            for (int k = 0; k < 22; k++) {
                int asked = k;
                ask(() -> x.trim(asked));
                ask(() -> x.translate(asked));
            }
        });
        run("lines that are none", () -> ask(() -> x.line(56, 0)));
    }

    private static void run(String what, Turn turn) {
        long thread = Thread.currentThread().getId();
        x = new PlaneProof();
        left = CALLS;
        long before = MEMORY.getThreadAllocatedBytes(thread);
        x = new PlaneProof();
        while (left > 0) {
            turn.go();
        }
        long made = MEMORY.getThreadAllocatedBytes(thread) - before;
        Check.yes("bytes made by " + what + ": " + made, made < MOST_BYTES);
    }

    private static void ask(Runnable call) {
        if (left > 0) {
            left--;
            try {
                call.run();
            } catch (IllegalArgumentException | IndexOutOfBoundsException e) {
                return;
            }
        }
    }

    private static void claim() {
        ask(() -> x.claim());
    }

    private static void proof() {
        ask(() -> x.proof());
    }

    /** Twenty bytes a call; a text that does not fill them has blanks behind it. */
    private static void feed(int[] numbers) {
        for (int k = 0; k + 4 < numbers.length && left > 0; k += 5) {
            left--;
            x.feed(numbers[k], numbers[k + 1], numbers[k + 2], numbers[k + 3], numbers[k + 4]);
        }
    }

    private static int[] numbers(String text) {
        int[] numbers = new int[(text.length() + 19) / 20 * 5];
        for (int k = 0; k < numbers.length * 4; k++) {
            numbers[k / 4] = numbers[k / 4] << 8 | (k < text.length() ? text.charAt(k) : ' ');
        }
        return numbers;
    }
}
