import java.io.IOException;
import java.nio.charset.StandardCharsets;
import java.nio.file.Files;
import java.nio.file.Path;

/** What the tests share: comparing answers, and telling texts to an object. */
final class Check {
    private static int wrong = 0;
    private static String document = "";
    private static String sentence = "";

    interface Call {
        Object run();
    }

    private Check() {
    }

    static void same(String what, Object due, Object got) {
        if (!due.equals(got)) {
            wrong++;
            System.out.println(sentence + what + ": answered " + got + ", due is " + due);
        }
    }

    /** The words of the document that the next checks stand for; they must stand there as told. */
    static void says(String words) {
        sentence = "";
        yes("the document does not say: " + words, document().contains(words));
        sentence = "<" + words + "> ";
    }

    /** All its white space is one blank, so that where its rows break does not matter. */
    static String document() {
        if (document.isEmpty()) {
            try {
                document = Files.readString(Path.of("../shared/DOC.md")).replaceAll("\\s+", " ");
            } catch (IOException e) {
                throw new IllegalStateException("run from the project's folder, beside ../shared", e);
            }
        }
        return document;
    }

    static void yes(String what, boolean got) {
        same(what, true, got);
    }

    static void no(String what, boolean got) {
        same(what, false, got);
    }

    /** The very class is due, none below it. */
    static void fails(String what, Class<? extends RuntimeException> due, Call call) {
        same(what, due.getSimpleName(), outcome(call));
    }

    /** The answer as a text, or the name of what was thrown. */
    static String outcome(Call call) {
        try {
            return String.valueOf(call.run());
        } catch (RuntimeException e) {
            return e.getClass().getSimpleName();
        }
    }

    static void finish(String test) {
        System.out.println(test + (wrong == 0 ? ": all as due" : ": " + wrong + " not as due"));
        System.exit(wrong == 0 ? 0 : 1);
    }

    static void tape(PlaneProof x, String text) {
        tape(x, text.getBytes(StandardCharsets.ISO_8859_1));
    }

    static void tape(PlaneProof x, byte[] text) {
        for (int at = 0; at < text.length; at += 20) {
            int[] five = new int[5];
            for (int k = 0; k < 20; k++) {
                int next = at + k < text.length ? text[at + k] & 255 : 0;
                five[k / 4] = five[k / 4] << 8 | next;
            }
            x.feed(five[0], five[1], five[2], five[3], five[4]);
        }
        yes("the tape takes the text", x.end(text.length));
    }

    static int claim(PlaneProof x, String text) {
        tape(x, text);
        return x.claim();
    }

    static int proof(PlaneProof x, String text) {
        tape(x, text);
        return x.proof();
    }

    static PlaneProof told(String claim, String proof) {
        PlaneProof x = new PlaneProof();
        claim(x, claim);
        proof(x, proof);
        return x;
    }

    static String written(PlaneProof x) {
        StringBuilder text = new StringBuilder();
        for (int next = x.octet(0); next != PlaneProof.NONE; next = x.octet(text.length())) {
            text.append((char) next);
        }
        return text.toString();
    }

    static PlaneProof claimed(String claim) {
        return told(claim, "");
    }

    /** A claim that is right, with so many axioms. */
    static void rightClaim(int axioms, String text) {
        PlaneProof x = new PlaneProof();
        tape(x, text);
        same("claim " + text, String.valueOf(axioms), outcome(x::claim));
        same("fault of claim " + text, -1, x.fault());
        same("axioms of claim " + text, axioms, x.count(0));
    }

    /** A claim that is wrong where ^ stands (which is no part of it); what was told ahead of it stays. */
    static void wrongClaim(String marked) {
        PlaneProof x = told("or f;", "weak 0 a;");
        tape(x, unmarked(marked));
        same("claim " + marked, "IllegalArgumentException", outcome(x::claim));
        same("fault of claim " + marked, marked.indexOf('^'), x.fault());
        same("axioms behind claim " + marked, 1, x.count(0));
        same("lines behind claim " + marked, 2, x.count(1));
    }

    /** A proof that is right behind a claim, with so many lines. */
    static void rightProof(String claim, int lines, String text) {
        PlaneProof x = told(claim, "low a;low b;");
        tape(x, text);
        same("proof " + text, String.valueOf(lines), outcome(x::proof));
        same("fault of proof " + text, -1, x.fault());
        same("lines of proof " + text, lines, x.count(1) - x.count(0));
    }

    /** A proof that is wrong where ^ stands (which is no part of it); the one ahead of it stays. */
    static void wrongProof(String claim, String marked) {
        PlaneProof x = told(claim, "low a;low b;");
        tape(x, unmarked(marked));
        same("proof " + marked, "IllegalArgumentException", outcome(x::proof));
        same("fault of proof " + marked, marked.indexOf('^'), x.fault());
        same("lines behind proof " + marked, 2, x.count(1) - x.count(0));
    }

    private static String unmarked(String marked) {
        int at = marked.indexOf('^');
        if (at < 0) {
            throw new IllegalStateException("no mark in " + marked);
        }
        return marked.substring(0, at) + marked.substring(at + 1);
    }

    /** The six coefficients and the bound of a plane. */
    static String planeOf(PlaneProof x, int line) {
        StringBuilder text = new StringBuilder();
        for (int v = 0; v < 6; v++) {
            text.append(x.plane(line, v)).append(' ');
        }
        return text.append("least ").append(x.plane(line, -1)).toString();
    }
}
