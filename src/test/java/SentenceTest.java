import java.io.IOException;
import java.nio.file.DirectoryStream;
import java.nio.file.Files;
import java.nio.file.Path;
import java.util.ArrayList;
import java.util.List;
import java.util.regex.Matcher;
import java.util.regex.Pattern;

/** Every sentence of the document's terms and promises is named by a test of its boundary cases (Check.says). */
public final class SentenceTest {
    private static final Pattern QUOTED = Pattern.compile("Check\\.says\\(((?:[^\"]|\"[^\"]*\")*?)\\);");
    private static final Pattern PIECE = Pattern.compile("\"([^\"]*)\"");

    public static void main(String[] args) throws IOException {
        String document = Check.document();
        int from = document.indexOf("## Terms");
        int to = document.indexOf("## Not promised");
        Check.yes("the document has its parts", from > 0 && to > from);
        String left = document.substring(from, to).replaceAll("## (Terms|Promise \\d+: (A new object|\\w+))", "|");
        left = left.replaceAll("`[^`]*`: ", "|").replaceAll("```text|```|====( \\d\\.)?", "|");
        for (String words : quoted()) {
            Check.yes("said by a test: " + words, document.contains(words));
            left = left.replace(words, "|");
        }
        // "Of a LINE:" opens a list whose parts are named one by one.
        left = left.replace("Of a LINE:", "|");
        Check.same("named by no test", "", left.replaceAll("[|;:,. ]+", "|").replaceAll("^\\||\\|$", ""));
        Check.finish("SentenceTest");
    }

    private static List<String> quoted() throws IOException {
        List<String> all = new ArrayList<>();
        try (DirectoryStream<Path> tests = Files.newDirectoryStream(Path.of("src/test/java"), "*BoundsTest.java")) {
            for (Path test : tests) {
                Matcher says = QUOTED.matcher(Files.readString(test));
                while (says.find()) {
                    all.add(joined(says.group(1)));
                }
            }
        }
        // The longest first, so that a short one does not break one that holds it.
        all.sort((a, b) -> b.length() - a.length());
        return all;
    }

    private static String joined(String code) {
        StringBuilder words = new StringBuilder();
        Matcher piece = PIECE.matcher(code);
        while (piece.find()) {
            words.append(piece.group(1));
        }
        return words.toString();
    }
}
