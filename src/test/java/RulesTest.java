import java.io.IOException;
import java.nio.file.Files;
import java.nio.file.Path;
import java.util.List;
import java.util.regex.Matcher;
import java.util.regex.Pattern;

/** What of LANGUAGE.md can be seen in the letters of the class. Run where src/main/java is. */
public final class RulesTest {
    private static final Check CHECK = new Check("rules");
    private static final Path FILE = Path.of("src/main/java/LastToAsk.java");

    /** Words and signs that the class has no need of; what the rules forbid is among them. */
    private static final String[] ABSENT = {"->", "::", "\\bimport\\b", "\\bpackage\\b", "\\bsynchronized\\b",
        "\\bassert\\b", "\\btry\\b", "\\bcatch\\b", "\\bthrow\\b", "\\bfinally\\b", "\\binstanceof\\b",
        "\\bstatic \\{", "\\bhashCode\\b", "\\btoString\\b", "\\bequals\\b", "\\bObject\\b", "\\w+Exact\\b",
        "\\bwhile\\b", "\\bdouble\\b", "\\bfloat\\b", "\\bRandom\\b", "\\bSystem\\.(?!arraycopy)", "@", "\\bvar\\b",
        "\\bprotected\\b", "\" \\+", "\\+ \""};

    public static void main(String[] args) throws IOException {
        List<String> lines = Files.readAllLines(FILE);
        StringBuilder code = new StringBuilder();
        for (String line : lines) {
            code.append(line.replaceAll("//.*", "")).append('\n');
            CHECK.due("signs of " + line, line.chars().allMatch(c -> c > 0 && c < 128) ? 1 : 0, 1);
        }
        String bare = code.toString().replaceAll("(?s)/\\*.*?\\*/", "");
        for (String pattern : ABSENT) {
            CHECK.due(pattern, count(pattern, bare), 0);
        }
        CHECK.due("classes", count("\\bclass \\w+", bare) <= 12 ? 1 : 0, 1);
        CHECK.due("a public inside", count("(?m)^ {8}.*\\bpublic\\b", bare), 0);
        CHECK.due("objects made but in fields and constructors",
                count("\\bnew\\b", bare.replaceAll("(?m)^ +private final .*= new .*;$", "")), 2);
        methodsAreShort(bare);
        CHECK.close();
    }

    private static int count(String pattern, String text) {
        Matcher matcher = Pattern.compile(pattern).matcher(text);
        int many = 0;
        while (matcher.find()) {
            many++;
        }
        return many;
    }

    private static void methodsAreShort(String bare) {
        Matcher method = Pattern.compile("(?ms)^( {4}| {8})(?:\\w+ )*[\\w\\[\\]]+ ?\\w*\\([^)]*\\) \\{$.*?^\\1\\}$")
                .matcher(bare);
        int many = 0;
        while (method.find()) {
            many++;
            int lines = method.group().split("\n").length;
            CHECK.due(method.group().split("\n")[0].trim(), lines <= 60 ? 1 : 0, 1);
        }
        CHECK.due("methods found", many > 60 ? 1 : 0, 1);
    }
}
