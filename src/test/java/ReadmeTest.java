import java.io.File;
import java.io.IOException;
import java.net.URL;
import java.net.URLClassLoader;
import java.nio.file.Files;
import java.nio.file.Path;
import java.util.TreeSet;
import java.util.regex.Matcher;
import java.util.regex.Pattern;
import javax.tools.JavaCompiler;
import javax.tools.ToolProvider;

/** README.md is true: its run compiles and answers as it says, and its table names the tests that there are. */
public final class ReadmeTest {
    private static final Check CHECK = new Check("ReadmeTest");
    private static final Pattern CALL = Pattern.compile("\\s*(d\\.\\w+\\(.*?\\));(.*)");
    private static final Pattern ANSWER = Pattern.compile("\\s*// (-?[0-9]+|[A-Z]+)\\b.*");
    private static final Pattern TEST = Pattern.compile("(?m)^\\| `(\\w+Test)` \\|");
    private static final String[] METHODS = {"write", "wipe", "fault", "lay", "thing", "life", "room", "worth", "put",
        "out", "live", "pass", "undo", "best", "cover", "serves", "row", "bargain", "talk", "see", "forget", "meant",
        "moths", "year", "keep", "back", "count"};

    public static void main(String[] args) throws Exception {
        String readme = Files.readString(Path.of("README.md"));
        String run = firstRun(readme);
        testsThatThereAre(readme);
        everyMethod(run);
        answers(run);
        CHECK.end();
    }

    /** The README's run, compiled into a class of its own, asks here whether an answer is the one that it tells. */
    public static void due(String call, int got, int want) {
        CHECK.due(call, got, want);
    }

    private static String firstRun(String readme) {
        int from = readme.indexOf("```java\n");
        int to = readme.indexOf("\n```", from + 1);
        CHECK.due("there is a run in README.md", from >= 0 && to > from ? 1 : 0, 1);
        return from >= 0 && to > from ? readme.substring(from + 8, to) : "";
    }

    private static void testsThatThereAre(String readme) {
        TreeSet<String> told = new TreeSet<>();
        Matcher test = TEST.matcher(readme);
        while (test.find()) {
            told.add(test.group(1));
        }
        TreeSet<String> found = new TreeSet<>();
        String[] files = new File("src/test/java").list();
        for (String file : files == null ? new String[0] : files) {
            if (file.endsWith("Test.java")) {
                found.add(file.substring(0, file.length() - 5));
            }
        }
        CHECK.same("the tests that README.md tells of", told.toString(), found.toString());
    }

    private static void everyMethod(String run) {
        for (String method : METHODS) {
            CHECK.due(method + " is in README.md's run", run.contains("d." + method + "(") ? 1 : 0, 1);
        }
    }

    private static void answers(String run) throws Exception {
        Path folder = Files.createTempDirectory("readme");
        try {
            compile(folder, source(run));
            URL[] there = {folder.toUri().toURL()};
            try (URLClassLoader loader = new URLClassLoader(there, ReadmeTest.class.getClassLoader())) {
                loader.loadClass("ReadmeRun").getMethod("run").invoke(null);
            }
        } finally {
            remove(folder);
        }
    }

    /** Each call that stands in a line of its own must tell its answer; all other lines are as they are. */
    private static String source(String run) {
        StringBuilder source = new StringBuilder("public final class ReadmeRun {\npublic static void run() {\n");
        for (String line : run.split("\n")) {
            Matcher call = CALL.matcher(line);
            if (!call.matches() || line.startsWith(" ")) {
                source.append(line).append('\n');
                continue;
            }
            Matcher answer = ANSWER.matcher(call.group(2));
            boolean told = answer.matches();
            CHECK.due("an answer is told in the line: " + line, told ? 1 : 0, 1);
            String want = told ? answer.group(1) : "0";
            source.append("ReadmeTest.due(\"README.md: ").append(call.group(1).replace("\"", "'")).append("\", ")
                    .append(call.group(1)).append(", ")
                    .append(Character.isLetter(want.charAt(0)) ? "BottomDrawer." + want : want).append(");\n");
        }
        return source.append("}\n}\n").toString();
    }

    private static void compile(Path folder, String source) throws IOException {
        Path file = folder.resolve("ReadmeRun.java");
        Files.writeString(file, source);
        JavaCompiler javac = ToolProvider.getSystemJavaCompiler();
        int code = javac.run(null, null, null, "-d", folder.toString(), "-cp", System.getProperty("java.class.path"),
                file.toString());
        CHECK.due("javac of README.md's run", code, 0);
    }

    private static void remove(Path folder) throws IOException {
        File[] files = folder.toFile().listFiles();
        for (File file : files == null ? new File[0] : files) {
            Files.delete(file.toPath());
        }
        Files.delete(folder);
    }
}
