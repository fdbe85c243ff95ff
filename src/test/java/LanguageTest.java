import java.io.IOException;
import java.nio.file.Files;
import java.nio.file.Path;
import java.util.ArrayList;
import java.util.List;
import java.util.Map;
import java.util.Set;
import java.util.TreeMap;
import java.util.TreeSet;
import java.util.regex.Matcher;
import java.util.regex.Pattern;

/** What of LANGUAGE.md can be seen from the source by its words alone; to be run at the project's root. */
public final class LanguageTest {
    private static final String[] FORBIDDEN = {"\\bthrow\\b", "\\bthrows\\b", "\\btry\\b", "\\bcatch\\b",
        "\\bsynchronized\\b", "\\bassert\\b", "->", "::", "\\bstatic\\s*\\{", "\\bpackage\\b", "\\bprotected\\b",
        "\\bSystem\\.(?!arraycopy)", "\\bRandom\\b", "\\bThread\\b", "\\bObject\\b",
        "Exact\\b", "\\bhashCode\\b", "\\btoString\\b", "\\bvar\\b", "\\bnew\\s+\\w+\\s*\\([^;]*\\)\\s*\\{",
        "\\bArrays\\.(?!fill\\b|copyOf\\b|copyOfRange\\b)", "\\bMath\\.(?!max\\b|min\\b|abs\\b)",
        "\\bInteger\\.(?!bitCount\\b)", "\\bdouble\\b", "\\bfloat\\b", "while\\s*\\(true",
        "\\binstanceof\\b", "\"\\s*\\+", "\\+\\s*\"", "\\[\\]\\[\\]", "\\bABOVE\\[[^\\]]*\\]\\s*="};
    private static final int MOST_LINES = 60, MOST_PARAMETERS = 7, MOST_DEEP = 8;

    public static void main(String[] args) throws IOException {
        String source = Files.readString(Path.of("src/main/java/GetsOutFirst.java"));
        Check.holds("plain signs alone", source.chars().allMatch(c -> c == '\n' || c >= 32 && c < 127));
        String code = withoutComments(source);
        for (String word : FORBIDDEN) {
            Matcher found = Pattern.compile(word).matcher(code);
            Check.holds("no " + word, !found.find());
        }
        imports(code);
        methods(code);
        Check.end("LanguageTest");
    }

    private static String withoutComments(String source) {
        return source.replaceAll("(?s)/\\*.*?\\*/", "").replaceAll("//[^\n]*", "");
    }

    private static void imports(String code) {
        Matcher found = Pattern.compile("import\\s+([\\w.]+)").matcher(code);
        while (found.find()) {
            Check.holds("import " + found.group(1), found.group(1).matches("java\\.util\\.(Arrays|ArrayList|List)"));
        }
    }

    private static void methods(String code) {
        Matcher found = Pattern.compile("\n( +)(?!return|else|new)[\\w\\[\\] ]*?(\\w+)\\(([^()]*)\\) \\{\n").matcher(code);
        Map<String, String> bodies = new TreeMap<>();
        while (found.find()) {
            String name = found.group(2);
            if (name.matches("if|for|while|switch")) {
                continue;
            }
            int end = code.indexOf("\n" + found.group(1) + "}\n", found.end() - 1);
            long lines = code.substring(found.start() + 1, end).lines().count() + 1;
            Check.holds(name + " has " + lines + " lines", lines <= MOST_LINES);
            int parameters = found.group(3).isBlank() ? 0 : found.group(3).split(",").length;
            Check.holds(name + " has " + parameters + " parameters", parameters <= MOST_PARAMETERS);
            bodies.merge(name, code.substring(found.end() - 1, end), String::concat);
        }
        Check.holds("methods were found: " + bodies.size(), bodies.size() > 60);
        depths(bodies);
    }

    /** Methods of one name count as one, and those that call one another as a chain of all of them: never too few. */
    private static void depths(Map<String, String> bodies) {
        Map<String, Set<String>> calls = new TreeMap<>();
        for (String name : bodies.keySet()) {
            Set<String> called = new TreeSet<>();
            Matcher found = Pattern.compile("\\b(\\w+)\\(").matcher(bodies.get(name));
            while (found.find()) {
                if (bodies.containsKey(found.group(1))) {
                    called.add(found.group(1));
                }
            }
            calls.put(name, called);
        }
        Map<String, Set<String>> reached = new TreeMap<>();
        for (String name : calls.keySet()) {
            reached.put(name, reachedFrom(name, calls));
        }
        Map<String, Integer> depths = new TreeMap<>();
        for (String name : calls.keySet()) {
            int deep = depth(name, calls, reached, depths);
            Check.holds(name + " calls " + deep + " deep", deep <= MOST_DEEP);
        }
    }

    private static Set<String> reachedFrom(String name, Map<String, Set<String>> calls) {
        Set<String> reached = new TreeSet<>();
        List<String> open = new ArrayList<>(calls.get(name));
        while (!open.isEmpty()) {
            String next = open.remove(open.size() - 1);
            if (reached.add(next)) {
                open.addAll(calls.get(next));
            }
        }
        return reached;
    }

    private static int depth(String name, Map<String, Set<String>> calls, Map<String, Set<String>> reached,
            Map<String, Integer> depths) {
        if (depths.containsKey(name)) {
            return depths.get(name);
        }
        Set<String> together = new TreeSet<>(Set.of(name));
        for (String other : reached.get(name)) {
            if (reached.get(other).contains(name)) {
                together.add(other);
            }
        }
        int below = 0;
        for (String one : together) {
            for (String called : calls.get(one)) {
                if (!together.contains(called)) {
                    below = Math.max(below, depth(called, calls, reached, depths));
                }
            }
        }
        depths.put(name, together.size() + below);
        return together.size() + below;
    }
}
