import java.io.IOException;
import java.lang.reflect.InvocationTargetException;
import java.lang.reflect.Method;
import java.lang.reflect.Modifier;
import java.nio.file.Files;
import java.nio.file.Path;
import java.util.regex.Matcher;
import java.util.regex.Pattern;

/** README.md: its example answers what is written behind each call, and it names every call of the face. */
public final class ReadmeTest {
    private static final Pattern BLOCK = Pattern.compile("(?s)```java\n(.*?)```");
    private static final Pattern CALL = Pattern.compile("x\\.(\\w+)\\((.*?)\\); +// (true|-?\\d+)\\b.*");

    public static void main(String[] args) throws IOException, IllegalAccessException, InvocationTargetException {
        String text = Files.readString(Path.of("README.md"));
        Matcher block = BLOCK.matcher(text);
        Check.yes("there is an example", block.find());
        example(block.group(1).split("\n"));
        names(text);
        Check.finish("ReadmeTest");
    }

    private static void example(String[] rows) throws IllegalAccessException, InvocationTargetException {
        Check.same("the first row", "PlaneProof x = new PlaneProof();", rows[0]);
        PlaneProof x = new PlaneProof();
        for (int k = 1; k < rows.length; k++) {
            Matcher call = CALL.matcher(rows[k]);
            Check.yes("a call and its answer: " + rows[k], call.matches());
            Method method = named(call.group(1));
            Object got = method.invoke(x, numbers(call.group(2)));
            Check.same(rows[k], call.group(3), String.valueOf(got));
        }
    }

    private static Object[] numbers(String written) {
        if (written.isEmpty()) {
            return new Object[0];
        }
        String[] parts = written.split(", ");
        Object[] numbers = new Object[parts.length];
        for (int k = 0; k < parts.length; k++) {
            numbers[k] = Integer.decode(parts[k]);
        }
        return numbers;
    }

    private static Method named(String name) {
        for (Method method : PlaneProof.class.getDeclaredMethods()) {
            if (method.getName().equals(name)) {
                return method;
            }
        }
        throw new IllegalStateException("no call " + name);
    }

    private static void names(String text) {
        for (Method method : PlaneProof.class.getDeclaredMethods()) {
            if (Modifier.isPublic(method.getModifiers())) {
                boolean named = Pattern.compile("`" + method.getName() + "(\\(\\w*\\))?`").matcher(text).find();
                Check.yes("README names " + method.getName(), named);
            }
        }
    }
}
