import java.io.IOException;
import java.nio.file.Files;
import java.nio.file.Path;
import java.util.List;
import java.util.regex.Pattern;

/** What of LANGUAGE.md can be told by looking at the lines of the class; its file is the first argument. */
public final class LanguageTest {
    private static final String[] RULED_OUT = {"\\bthrow\\b", "\\bthrows\\b", "\\btry\\b", "\\bcatch\\b",
        "\\bsynchronized\\b", "\\bassert\\b", "->", "::", "\\bpackage\\b", "\\bvar\\b", "\\bSystem\\.(?!arraycopy)",
        "\\bMath\\.\\w+Exact\\b", "\\bnative\\b", "\\bvolatile\\b", "\\bThread\\b", "\"\\s*\\+", "\\+\\s*\"",
        "\\bprotected\\b", "^\\s*static\\s*\\{", "\\b(equals|hashCode|toString)\\s*\\("};

    public static void main(String[] args) throws IOException {
        List<String> lines = Files.readAllLines(Path.of(args[0]));
        int open = -1;
        for (int i = 0; i < lines.size(); i++) {
            String line = lines.get(i);
            String code = line.replaceAll("//.*", "");
            boolean comment = line.strip().startsWith("*") || line.strip().startsWith("/*");
            for (String out : RULED_OUT) {
                Check.holds("line " + (i + 1) + ": no " + out, comment || !Pattern.compile(out).matcher(code).find());
            }
            Check.holds("line " + (i + 1) + ": signs 1 to 127", line.chars().allMatch(c -> c > 0 && c < 128));
            Check.holds("line " + (i + 1) + ": imports", !code.startsWith("import ")
                || code.equals("import java.util.Arrays;"));
            if (code.matches("    (    )?(public|private|static|int|void|boolean|State|Border).*\\) \\{")) {
                open = i;
            } else if (open >= 0 && code.matches("    (    )?\\}")
                && code.indexOf('}') == lines.get(open).length() - lines.get(open).stripLeading().length()) {
                Check.holds("line " + (open + 1) + ": short", i - open <= 60);
                open = -1;
            }
        }
        Check.end("LanguageTest");
    }
}
