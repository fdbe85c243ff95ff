import java.io.IOException;
import java.nio.file.Files;
import java.nio.file.Path;
import java.util.regex.Matcher;
import java.util.regex.Pattern;

/** What of LANGUAGE.md can be seen from the source by its words alone; to be run at the project's root. */
public final class LanguageTest {
    private static final String[] FORBIDDEN = {"\\bthrow\\b", "\\bthrows\\b", "\\btry\\b", "\\bcatch\\b",
        "\\bsynchronized\\b", "\\bassert\\b", "->", "::", "\\bstatic\\s*\\{", "\\bpackage\\b", "\\bprotected\\b",
        "\\bSystem\\.(?!arraycopy)", "\\bRandom\\b", "\\bThread\\b", "\\bObject\\b",
        "Exact\\b", "\\bhashCode\\b", "\\btoString\\b", "\\bvar\\b", "\\bnew\\s+\\w+\\s*\\([^;]*\\)\\s*\\{",
        "\\bArrays\\.(?!fill\\b|copyOf\\b|copyOfRange\\b)", "\\bMath\\.(?!max\\b|min\\b|abs\\b)",
        "\\bInteger\\.(?!bitCount\\b)", "\\bdouble\\b", "\\bfloat\\b", "while\\s*\\(true"};

    public static void main(String[] args) throws IOException {
        String source = Files.readString(Path.of("src/main/java/GetsOutFirst.java"));
        Check.holds("plain signs alone", source.chars().allMatch(c -> c == '\n' || c >= 32 && c < 127));
        String code = withoutComments(source);
        for (String word : FORBIDDEN) {
            Matcher found = Pattern.compile(word).matcher(code);
            Check.holds("no " + word, !found.find());
        }
        imports(code);
        methods(code);
        Check.end("LanguageTest");
    }

    private static String withoutComments(String source) {
        return source.replaceAll("(?s)/\\*.*?\\*/", "").replaceAll("//[^\n]*", "");
    }

    private static void imports(String code) {
        Matcher found = Pattern.compile("import\\s+([\\w.]+)").matcher(code);
        while (found.find()) {
            Check.holds("import " + found.group(1), found.group(1).matches("java\\.util\\.(Arrays|ArrayList|List)"));
        }
    }

    private static void methods(String code) {
        Matcher found = Pattern.compile("\\n( +)(?!return|else|new)[\\w\\[\\] ]*?(\\w+)\\(([^()]*)\\) \\{\\n").matcher(code);
        int methods = 0;
        while (found.find()) {
            if (found.group(2).matches("if|for|while|switch")) {
                continue;
            }
            methods++;
            int end = code.indexOf("\n" + found.group(1) + "}\n", found.end() - 1);
            long lines = code.substring(found.start() + 1, end).lines().count() + 1;
            Check.holds(found.group(2) + " has " + lines + " lines", lines <= 60);
            int parameters = found.group(3).isBlank() ? 0 : found.group(3).split(",").length;
            Check.holds(found.group(2) + " has " + parameters + " parameters", parameters <= 7);
        }
        Check.holds("methods were found: " + methods, methods > 60);
    }
}
