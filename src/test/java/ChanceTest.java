import java.lang.reflect.InvocationTargetException;
import java.lang.reflect.Method;
import java.lang.reflect.Modifier;
import java.util.ArrayList;
import java.util.Arrays;
import java.util.Comparator;
import java.util.List;
import java.util.Random;

/** Calls by chance (always the same ones) with any arguments: nothing but what the face tells is thrown. */
public final class ChanceTest {
    private static final int[] EDGES = {Integer.MIN_VALUE, Integer.MIN_VALUE + 1, -64, -33, -2, -1, 6, 7, 15, 16, 31, 32, 33,
        39, 40, 41, 55, 56, 57, 62, 63, 64, 65, 127, 128, 399, 400, 401, 4095, 4096, Integer.MAX_VALUE - 1, Integer.MAX_VALUE};
    private static final String[] WORDS = {"or a b;", "or - a;", "sum 2 a - 3 b least 1;", "source a;", "step b from a;",
        "sink b;", "res 0 1 a;", "weak 0 c;", "low a;", "top b;", "plane 0;", "add 2 3;", "mul 2 9;", "div 3 2;", "clause 2 a;",
        "or", "- ", "a", "9", ";", "\t", "\0", "\u00ff"};

    public static void main(String[] args) throws IllegalAccessException {
        List<Method> face = new ArrayList<>();
        for (Method m : PlaneProof.class.getDeclaredMethods()) {
            if (Modifier.isPublic(m.getModifiers())) {
                face.add(m);
            }
        }
        face.sort(Comparator.comparing(Method::getName));
        for (int seed = 0; seed < 400; seed++) {
            run(new Random(seed), face);
        }
        Check.finish("ChanceTest");
    }

    private static void run(Random chance, List<Method> face) throws IllegalAccessException {
        PlaneProof x = new PlaneProof();
        for (int call = 0; call < 512; call++) {
            if (chance.nextInt(12) == 0) {
                x.end(0);
                Check.tape(x, text(chance));
            }
            Method m = face.get(chance.nextInt(face.size()));
            Object[] with = arguments(chance, m);
            try {
                m.invoke(x, with);
            } catch (InvocationTargetException e) {
                boolean told = Arrays.asList(m.getExceptionTypes()).contains(e.getCause().getClass());
                Check.yes(m.getName() + Arrays.toString(with) + " threw " + e.getCause(), told);
            }
        }
    }

    private static Object[] arguments(Random chance, Method m) {
        Object[] with = new Object[m.getParameterCount()];
        for (int k = 0; k < with.length; k++) {
            boolean isBoolean = m.getParameterTypes()[k] == boolean.class;
            with[k] = isBoolean ? (Object) chance.nextBoolean() : (Object) number(chance);
        }
        return with;
    }

    private static int number(Random chance) {
        int kind = chance.nextInt(10);
        return kind < 7 ? chance.nextInt(8) : kind < 9 ? EDGES[chance.nextInt(EDGES.length)] : chance.nextInt();
    }

    private static String text(Random chance) {
        StringBuilder text = new StringBuilder();
        int longest = chance.nextInt(400);
        // Most texts are of claims alone or of proofs alone, and whole lines.
        int from = chance.nextBoolean() ? 0 : 6;
        int many = chance.nextInt(5) == 0 ? WORDS.length - from : from == 0 ? 6 : 9;
        while (true) {
            String word = WORDS[from + chance.nextInt(many)];
            if (text.length() + word.length() > longest) {
                return text.toString();
            }
            text.append(word);
        }
    }
}
