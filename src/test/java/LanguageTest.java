import java.io.IOException;
import java.nio.file.Files;
import java.nio.file.Path;
import java.util.List;
import java.util.regex.Pattern;

/** What can be seen of the rules of LANGUAGE.md line by line; it runs in the project's directory. */
final class LanguageTest {
    private static final Path PROGRAM = Path.of("src/main/java/CheckpointedStream.java");

    private static final String[] RULED_OUT = {
        "\\bimport\\b", "\\bpackage\\b", "->", "::", "\\bfinally\\b", "\\bsynchronized\\b", "\\bassert\\b",
        "\\bcatch\\b", "\\bprotected\\b", "\\bSystem\\b", "\\bThread\\b", "\\bObject\\b", "\\bException\\b",
        "\\bThrowable\\b", "\\w+Exact\\b", "\\bhashCode\\b", "\\btoString\\b", "\\bequals\\b", "\\bvar\\b",
        "[^\\x00-\\x7F]",
    };

    private static final Check CHECK = new Check("LanguageTest");

    public static void main(String[] args) throws IOException {
        List<String> lines = Files.readAllLines(PROGRAM);
        for (int i = 0; i < lines.size(); i++) {
            String code = lines.get(i).replaceAll("\"[^\"]*\"", "\"\"").replaceAll("//.*|/\\*\\*.*|^ *\\*.*", "");
            for (String pattern : RULED_OUT) {
                CHECK.no("line " + (i + 1) + " has " + pattern, Pattern.compile(pattern).matcher(code).find());
            }
            // What a run makes is counted: rows are made with the object, exceptions where they are thrown.
            if (code.contains("new ")) {
                CHECK.yes("line " + (i + 1) + " makes in a field or a throw",
                        code.contains("final ") || code.contains("throw new "));
            }
        }
        CHECK.finish();
    }
}
