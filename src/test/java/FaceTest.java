import java.io.IOException;
import java.lang.reflect.Constructor;
import java.lang.reflect.Field;
import java.lang.reflect.Method;
import java.lang.reflect.Modifier;
import java.nio.file.Files;
import java.nio.file.Path;
import java.util.ArrayList;
import java.util.Arrays;
import java.util.List;
import java.util.Set;
import java.util.TreeSet;
import java.util.regex.Matcher;
import java.util.regex.Pattern;

/** The public face of the document, and the rules of LANGUAGE.md that can be seen from outside. */
public final class FaceTest {
    private static final String FACE = String.join("\n",
        "int feed(int,int,int,int,int)", "boolean end(int)", "int claim() IllegalArgumentException",
        "int proof() IllegalArgumentException", "int fault()",
        "int line(int,int) IndexOutOfBoundsException NoSuchElementException",
        "int lits(int,boolean) IndexOutOfBoundsException NoSuchElementException",
        "int plane(int,int) IndexOutOfBoundsException NoSuchElementException",
        "int cut(int) IndexOutOfBoundsException NoSuchElementException",
        "boolean holds(int,int) IndexOutOfBoundsException IllegalArgumentException",
        "int often(int) IndexOutOfBoundsException", "int model(int)", "int refutes()",
        "int measure(int,int) IndexOutOfBoundsException NoSuchElementException",
        "long tree(int) IndexOutOfBoundsException", "boolean needs(int,int) IndexOutOfBoundsException",
        "int uses(int) IndexOutOfBoundsException", "int same(int) IndexOutOfBoundsException",
        "boolean gives(int,int) IndexOutOfBoundsException",
        "int units(int,int,int) IllegalArgumentException NoSuchElementException",
        "int within(int,int) IllegalArgumentException NoSuchElementException", "int leastWidth()",
        "boolean has(int,int,int) IllegalArgumentException", "int node(int) NoSuchElementException",
        "int pebbled(int) IllegalArgumentException", "int pebbles()", "int trim(int) IndexOutOfBoundsException",
        "int translate(int) IndexOutOfBoundsException IllegalStateException",
        "int translated(int) IndexOutOfBoundsException IllegalStateException", "int octet(int)",
        "int slack(int,int) IndexOutOfBoundsException IllegalArgumentException",
        "int rests(int) IndexOutOfBoundsException", "int core(boolean)", "int without(int) IndexOutOfBoundsException",
        "int pure(boolean)", "int stands(int,boolean) IndexOutOfBoundsException", "int count(int)");

    public static void main(String[] args) throws IOException {
        methods();
        fieldsAndConstructors();
        classesInside();
        source(Files.readString(Path.of("src/main/java/PlaneProof.java")));
        Check.finish("FaceTest");
    }

    private static void methods() {
        Set<String> due = new TreeSet<>(Arrays.asList(FACE.split("\n")));
        Set<String> got = new TreeSet<>();
        Set<String> names = new TreeSet<>();
        for (Method m : PlaneProof.class.getDeclaredMethods()) {
            if (!Modifier.isPrivate(m.getModifiers())) {
                Check.same("public and no more: " + m, Modifier.PUBLIC, m.getModifiers());
                got.add(written(m));
                names.add(m.getName());
            }
        }
        Check.same("the face", due, got);
        for (Class<?> c : allClasses()) {
            for (Method m : c.getDeclaredMethods()) {
                boolean isPublic = Modifier.isPublic(m.getModifiers());
                Check.no("a name of the face: " + m, !isPublic && names.contains(m.getName()));
                Check.yes("at most seven parameters: " + m, m.getParameterCount() <= 7);
            }
        }
    }

    private static String written(Method m) {
        List<String> types = new ArrayList<>();
        for (Class<?> type : m.getParameterTypes()) {
            types.add(type.getSimpleName());
        }
        StringBuilder text = new StringBuilder(m.getReturnType().getSimpleName());
        text.append(' ').append(m.getName()).append('(').append(String.join(",", types)).append(')');
        for (Class<?> thrown : m.getExceptionTypes()) {
            text.append(' ').append(thrown.getSimpleName());
        }
        return text.toString();
    }

    private static void fieldsAndConstructors() {
        Check.yes("the class is final", Modifier.isFinal(PlaneProof.class.getModifiers()));
        for (Field f : PlaneProof.class.getDeclaredFields()) {
            boolean isNone = f.getName().equals("NONE");
            Check.yes("private: " + f, isNone || Modifier.isPrivate(f.getModifiers()));
        }
        for (Constructor<?> c : PlaneProof.class.getDeclaredConstructors()) {
            Check.same("the one constructor", "public PlaneProof()", c.toString());
        }
        for (Class<?> c : allClasses()) {
            int fields = 0;
            for (Field f : c.getDeclaredFields()) {
                boolean isStatic = Modifier.isStatic(f.getModifiers());
                Check.yes("static is final: " + f, !isStatic || Modifier.isFinal(f.getModifiers()));
                fields += isStatic ? 0 : 1;
            }
            Check.yes("at most twenty fields: " + c, fields <= 20);
        }
    }

    private static List<Class<?>> allClasses() {
        List<Class<?>> all = new ArrayList<>(Arrays.asList(PlaneProof.class.getDeclaredClasses()));
        all.add(PlaneProof.class);
        return all;
    }

    private static void classesInside() {
        Check.yes("at most twelve classes", allClasses().size() <= 12);
        for (Class<?> c : PlaneProof.class.getDeclaredClasses()) {
            Check.yes("static: " + c, Modifier.isStatic(c.getModifiers()));
            Check.no("not public: " + c, Modifier.isPublic(c.getModifiers()) || Modifier.isProtected(c.getModifiers()));
        }
    }

    private static void source(String text) {
        String code = text.replaceAll("(?s)/\\*.*?\\*/", " ").replaceAll("//[^\n]*", " ").replaceAll("\"[^\"\n]*\"", "\"\"");
        String[] outside = {"\\btry\\b", "\\bcatch\\b", "\\bfinally\\b", "\\bassert\\b", "\\bsynchronized\\b", "->", "::",
            "\\bimport (?!java\\.util\\.(Arrays|NoSuchElementException);)", "\\bpackage\\b", "\\bpublic static (?!final int NONE)",
            "\\bdouble\\b", "\\bfloat\\b", "Exact\\(", "@", "\\bThrowable\\b", "\\bSystem\\.(?!arraycopy)", "\\bstatic \\{"};
        for (String pattern : outside) {
            Matcher m = Pattern.compile(pattern).matcher(code);
            Check.no("outside the language: " + pattern, m.find());
        }
        Check.no("signs above 127", text.chars().anyMatch(c -> c > 127));
        shortMethods(text);
    }

    /** A method starts at a line that ends in { at the depth of a class's member. */
    private static void shortMethods(String text) {
        String[] rows = text.split("\n");
        int start = -1;
        for (int k = 0; k < rows.length; k++) {
            boolean opens = rows[k].matches("( {4}| {8})\\S.*\\) .*\\{|( {4}| {8})\\S.*\\) \\{");
            start = opens ? k : start;
            if (start >= 0 && rows[k].matches("( {4}| {8})\\}")) {
                Check.yes("sixty lines at most: " + rows[start].trim(), k - start <= 60);
                start = -1;
            }
        }
    }
}
