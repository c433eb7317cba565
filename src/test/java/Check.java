import java.nio.charset.StandardCharsets;

/** What the tests share: comparing answers, and telling texts to an object. */
final class Check {
    private static int wrong = 0;

    interface Call {
        Object run();
    }

    private Check() {
    }

    static void same(String what, Object due, Object got) {
        if (!due.equals(got)) {
            wrong++;
            System.out.println(what + ": answered " + got + ", due is " + due);
        }
    }

    static void yes(String what, boolean got) {
        same(what, true, got);
    }

    static void no(String what, boolean got) {
        same(what, false, got);
    }

    /** The very class is due, none below it. */
    static void fails(String what, Class<? extends RuntimeException> due, Call call) {
        same(what, due.getSimpleName(), outcome(call));
    }

    /** The answer as a text, or the name of what was thrown. */
    static String outcome(Call call) {
        try {
            return String.valueOf(call.run());
        } catch (RuntimeException e) {
            return e.getClass().getSimpleName();
        }
    }

    static void finish(String test) {
        System.out.println(test + (wrong == 0 ? ": all as due" : ": " + wrong + " not as due"));
        System.exit(wrong == 0 ? 0 : 1);
    }

    static void tape(PlaneProof x, String text) {
        tape(x, text.getBytes(StandardCharsets.ISO_8859_1));
    }

    static void tape(PlaneProof x, byte[] text) {
        for (int at = 0; at < text.length; at += 20) {
            int[] five = new int[5];
            for (int k = 0; k < 20; k++) {
                int next = at + k < text.length ? text[at + k] & 255 : 0;
                five[k / 4] = five[k / 4] << 8 | next;
            }
            x.feed(five[0], five[1], five[2], five[3], five[4]);
        }
        yes("the tape takes the text", x.end(text.length));
    }

    static int claim(PlaneProof x, String text) {
        tape(x, text);
        return x.claim();
    }

    static int proof(PlaneProof x, String text) {
        tape(x, text);
        return x.proof();
    }

    static PlaneProof told(String claim, String proof) {
        PlaneProof x = new PlaneProof();
        claim(x, claim);
        proof(x, proof);
        return x;
    }

    static String written(PlaneProof x) {
        StringBuilder text = new StringBuilder();
        for (int k = 0; x.octet(k) != PlaneProof.NONE; k++) {
            text.append((char) x.octet(k));
        }
        return text.toString();
    }
}
