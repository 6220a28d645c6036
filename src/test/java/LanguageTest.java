import java.nio.file.Files;
import java.nio.file.Path;
import java.util.List;
import java.util.regex.Matcher;
import java.util.regex.Pattern;

/** Those rules of LANGUAGE.md that can be seen in the program's text. */
public final class LanguageTest {
    private static final Path SOURCE = Path.of("src/main/java/TideGates.java");
    private static final String[] BANNED = {
        "->", "::", "\\bsynchronized\\b", "\\bassert\\b", "\\btry\\b", "\\bcatch\\b", "\\bfinally\\b", "Exact\\(",
        "\\bdouble\\b", "\\bfloat\\b", "\\bObject\\b", "\\bRandom\\b", "\\bThread\\b", "System\\.(?!arraycopy)",
        "\\bhashCode\\b", "\\btoString\\b", "\\bpackage\\b", "\\[\\]\\[\\]\\[\\]", "\\bvar\\b", "static \\{",
        "Math\\.(?!max|min|floorMod)", "Arrays\\.(?!fill|copyOf)", "Integer\\.(?!bitCount)", "String\\.", "\\?\\s*>",
    };
    private static final Pattern HEAD = Pattern.compile("^ {4,8}(?:[\\w\\[\\]]+ )*\\w+\\(([^)]*)\\)[^;]*$");

    public static void main(String[] args) throws Exception {
        Check check = new Check("LanguageTest");
        List<String> lines = Files.readAllLines(SOURCE);
        String code = String.join("\n", lines).replaceAll("(?s)/\\*.*?\\*/", "").replaceAll("//[^\n]*", "");
        String bare = code.replaceAll("\"[^\"\n]*\"", "\"\"");
        for (String banned : BANNED) {
            Matcher found = Pattern.compile(banned).matcher(bare);
            check.isTrue("no " + banned, !found.find());
        }
        Matcher thrown = Pattern.compile("\\bthrow\\b(?! new (NoSuchElement|IllegalArgument|IllegalState)Exception\\(\"\"\\);)")
                .matcher(bare);
        check.isTrue("throw new E(\"a written text\") alone", !thrown.find());
        Matcher imports = Pattern.compile("import (?!java\\.util\\.(Arrays|NoSuchElementException);)").matcher(bare);
        check.isTrue("imports", !imports.find());
        check.isTrue("signs 1 to 127", code.chars().allMatch(c -> c > 0 && c < 128));
        methods(check, lines);
        check.end();
    }

    private static void methods(Check check, List<String> lines) {
        int found = 0;
        int from = -1;
        for (int i = 0; i < lines.size(); i++) {
            String line = lines.get(i);
            Matcher head = HEAD.matcher(line);
            if (head.matches() && !line.contains(" new ") && !line.trim().startsWith("return")) {
                from = i;
                found++;
                int parameters = head.group(1).isEmpty() ? 0 : head.group(1).split(",").length;
                check.isTrue(line + " takes seven at most", parameters <= 7);
            } else if (from >= 0 && line.matches(" {4,8}\\}")) {
                check.isTrue(lines.get(from) + " is short", i - from <= 60);
                from = -1;
            }
            check.isTrue("line " + (i + 1) + " is not too long", line.length() <= 120);
        }
        check.isTrue("methods were found: " + found, found > 90);
    }
}
