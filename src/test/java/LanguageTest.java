import java.io.IOException;
import java.nio.file.Files;
import java.nio.file.Path;
import java.util.ArrayList;
import java.util.HashMap;
import java.util.List;
import java.util.Map;
import java.util.regex.Matcher;
import java.util.regex.Pattern;

/** What of LANGUAGE.md can be seen in the program's text. */
public final class LanguageTest {
    private static final int LONGEST_METHOD = 60, DEEPEST_CALL = 8;

    public static void main(String[] args) throws IOException {
        String text = Files.readString(Path.of("src/main/java/WharfPapers.java"));
        for (int k = 0; k < text.length(); k++) {
            if (text.charAt(k) > 126) {
                Check.holds("a plain sign at " + k, false);
            }
        }
        String code = bare(text);
        words(code);
        library(code);
        methods(code);
        Check.end();
    }

    /** Without comments and texts. */
    private static String bare(String text) {
        return text.replaceAll("(?s)/\\*.*?\\*/", " ").replaceAll("//[^\n]*", " ")
            .replaceAll("\"[^\"\n]*\"", "\"\"").replaceAll("'[^'\n]*'", "' '");
    }

    private static void words(String code) {
        String[] none = {"throw", "throws", "try", "catch", "finally", "synchronized", "assert", "package", "import", "protected",
            "volatile", "transient", "native", "strictfp", "var", "instanceof", "while\\s*\\(\\s*true", "->", "::", "@\\w+", "\\.hashCode",
            "\\.toString", "Object", "Exact", "Thread", "Random", "currentTime", "nanoTime", "NaN"};
        for (String word : none) {
            String whole = word.matches("\\w+") ? "\\b" + word + "\\b" : word;
            Check.holds("no " + word, !Pattern.compile(whole).matcher(code).find());
        }
        Check.due("one public class", count(code, "\\bpublic\\s+(final\\s+)?class\\b"), 1);
        Check.due("no static block", count(code, "\\bstatic\\s*\\{"), 0);
        Matcher fields = Pattern.compile("\\bstatic\\b([^;{(]*?)\\b\\w+\\s*=").matcher(code);
        while (fields.find()) {
            Check.holds("a constant of a plain kind: " + fields.group(), fields.group(1).matches("\\s*final\\s+(int|long)(\\[\\])?\\s*"));
        }
    }

    private static int count(String code, String what) {
        Matcher found = Pattern.compile(what).matcher(code);
        int all = 0;
        while (found.find()) {
            all++;
        }
        return all;
    }

    private static void library(String code) {
        Matcher used = Pattern.compile("\\b(Math|Integer|Long|String|System|Arrays|StringBuilder|ArrayList|List)\\.(\\w+)").matcher(code);
        while (used.find()) {
            Check.holds("of the library: " + used.group(), List.of("Math.max", "Math.min", "Integer.bitCount").contains(used.group()));
        }
        Matcher made = Pattern.compile("\\bnew\\s+(\\w+)").matcher(code);
        while (made.find()) {
            String type = made.group(1);
            Check.holds("made of own classes and numbers: " + type,
                List.of("int", "long", "boolean").contains(type) || code.contains("class " + type + " "));
        }
    }

    /** Methods stay short; calls that are open at once stay few, and none calls itself. */
    private static void methods(String code) {
        Pattern head = Pattern.compile("(?m)^ {4,8}(?:(?:public|private|static|final) )*(?:[\\w\\[\\]]+ )?(\\w+)\\(([^)]*)\\) \\{$");
        Matcher found = head.matcher(code);
        Map<String, List<String>> calls = new HashMap<>();
        List<String> names = new ArrayList<>();
        List<String> bodies = new ArrayList<>();
        while (found.find()) {
            int end = endOf(code, found.end() - 1);
            String body = code.substring(found.end(), end);
            names.add(found.group(1));
            bodies.add(body);
            Check.holds(found.group(1) + " is short", body.split("\n").length <= LONGEST_METHOD);
        }
        Check.holds("all methods are seen", names.size() > 100);
        for (int k = 0; k < names.size(); k++) {
            List<String> called = calls.computeIfAbsent(names.get(k), n -> new ArrayList<>());
            Matcher call = Pattern.compile("(?<!new )\\b(\\w+)\\(").matcher(bodies.get(k));
            while (call.find()) {
                if (names.contains(call.group(1)) && !called.contains(call.group(1))) {
                    called.add(call.group(1));
                }
            }
        }
        for (String name : names) {
            Check.holds(name + " goes " + DEEPEST_CALL + " deep at the most", depth(name, calls, 0) <= DEEPEST_CALL);
        }
    }

    private static int endOf(String code, int open) {
        int depth = 0;
        for (int k = open; k < code.length(); k++) {
            depth += code.charAt(k) == '{' ? 1 : code.charAt(k) == '}' ? -1 : 0;
            if (depth == 0) {
                return k;
            }
        }
        return code.length();
    }

    private static int depth(String name, Map<String, List<String>> calls, int above) {
        int deepest = 1;
        if (above > 30) {
            return 100;
        }
        for (String called : calls.get(name)) {
            deepest = Math.max(deepest, 1 + depth(called, calls, above + 1));
        }
        return deepest;
    }
}
