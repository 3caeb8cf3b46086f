import java.io.IOException;
import java.lang.reflect.Method;
import java.lang.reflect.Modifier;
import java.net.URL;
import java.net.URLClassLoader;
import java.nio.file.Files;
import java.nio.file.Path;
import java.util.ArrayList;
import java.util.Comparator;
import java.util.List;
import java.util.Set;
import java.util.TreeSet;
import java.util.regex.Matcher;
import java.util.regex.Pattern;
import java.util.stream.Stream;
import javax.tools.ToolProvider;

/** What README.md says is what the class and its tests do. */
public final class ReadmeTest {
    /** A line of an example with its answer, a number or a constant, ahead of the colon. */
    private static final Pattern ANSWERED = Pattern.compile("(?:int (\\w+) = )?(\\w+\\.\\w+\\(.*?\\)); +// (-?\\d+|[A-Z]+): .*");

    private static final List<String> calls = new ArrayList<>();
    private static final List<Integer> due = new ArrayList<>();

    public static void main(String[] args) throws IOException, ReflectiveOperationException {
        String page = Files.readString(Path.of("README.md"));
        examples(page);
        namesEveryCall(page);
        namesEveryTest(page);
        Check.end();
    }

    private static void examples(String page) throws IOException, ReflectiveOperationException {
        StringBuilder members = new StringBuilder();
        StringBuilder body = new StringBuilder();
        Matcher block = Pattern.compile("(?s)```java\n(.*?)```").matcher(page);
        while (block.find()) {
            if (block.group(1).startsWith("static ")) {
                members.append(block.group(1));
            } else {
                block.group(1).lines().forEach(line -> body.append(asked(line)).append('\n'));
            }
        }
        Check.holds("the page has examples with answers", calls.size() > 20);
        int[] got = run("public final class ReadmeExample {\n" + members + "public static int[] answers() {\nint[] got = new int["
            + calls.size() + "];\n" + body + "return got;\n}\n}\n");
        for (int k = 0; k < got.length; k++) {
            Check.due("README.md: " + calls.get(k), got[k], due.get(k));
        }
        Check.holds("the examples run", got.length == calls.size());
    }

    /** A line whose answer is kept in got[], if the page tells one. */
    private static String asked(String line) {
        Matcher answered = ANSWERED.matcher(line);
        if (!answered.matches()) {
            Check.holds("README.md tells the answer of: " + line, !line.matches(".*wharf\\.\\w+\\(.*") && !line.contains("//"));
            return line;
        }
        int place = calls.size();
        calls.add(answered.group(2));
        due.add(number(answered.group(3)));
        String kept = "got[" + place + "] = " + answered.group(2) + ";";
        return answered.group(1) == null ? kept : kept + " int " + answered.group(1) + " = got[" + place + "];";
    }

    private static int number(String text) {
        switch (text) {
            case "NONE": return -1;
            case "UNKNOWN": return -1001;
            case "OUTSIDE": return -1002;
            case "NOT": return -1003;
            case "FULL": return -1004;
            default: return Integer.parseInt(text);
        }
    }

    private static int[] run(String program) throws IOException, ReflectiveOperationException {
        Path work = Files.createTempDirectory("readme");
        try {
            Path file = work.resolve("ReadmeExample.java");
            Files.writeString(file, program);
            int answer = ToolProvider.getSystemJavaCompiler().run(null, null, null, "-d", work.toString(),
                "-cp", System.getProperty("java.class.path"), file.toString());
            Check.due("compiling the examples of README.md", answer, 0);
            if (answer != 0) {
                return new int[0];
            }
            try (URLClassLoader loader = new URLClassLoader(new URL[] {work.toUri().toURL()}, ReadmeTest.class.getClassLoader())) {
                return (int[]) loader.loadClass("ReadmeExample").getMethod("answers").invoke(null);
            }
        } finally {
            remove(work);
        }
    }

    private static void remove(Path work) throws IOException {
        try (Stream<Path> files = Files.walk(work)) {
            for (Path file : files.sorted(Comparator.reverseOrder()).toList()) {
                Files.delete(file);
            }
        }
    }

    /** The table has each call once, with the promise that the class says it keeps. */
    private static void namesEveryCall(String page) throws IOException {
        String source = Files.readString(Path.of("src/main/java/WharfPapers.java"));
        int calls = 0;
        for (Method method : WharfPapers.class.getDeclaredMethods()) {
            if (Modifier.isPublic(method.getModifiers())) {
                calls++;
                Matcher told = Pattern.compile("(\\d+) `" + method.getName() + "`").matcher(page);
                boolean isTold = told.find();
                Check.holds("README.md names " + method.getName(), isTold);
                String promise = isTold ? "/** Promise " + told.group(1) + ". */\n    public int " + method.getName() + "(" : "none";
                Check.holds("README.md has the promise of " + method.getName(), source.contains(promise));
            }
        }
        Check.due("calls of the face", calls, 32);
    }

    private static void namesEveryTest(String page) throws IOException {
        Set<String> there = new TreeSet<>();
        try (Stream<Path> files = Files.list(Path.of("src/test/java"))) {
            files.map(f -> f.getFileName().toString()).filter(f -> f.endsWith("Test.java"))
                .forEach(f -> there.add(f.substring(0, f.length() - ".java".length())));
        }
        Set<String> told = new TreeSet<>();
        Matcher name = Pattern.compile("`([A-Z]\\w*Test)`").matcher(page);
        while (name.find()) {
            told.add(name.group(1));
        }
        Check.holds("README.md names the tests " + there + ", not " + told, there.equals(told));
    }
}
