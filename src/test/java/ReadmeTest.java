import java.io.File;
import java.io.IOException;
import java.lang.reflect.Method;
import java.lang.reflect.Modifier;
import java.nio.file.Files;
import java.nio.file.Path;
import java.util.ArrayList;
import java.util.Comparator;
import java.util.List;
import java.util.regex.Matcher;
import java.util.regex.Pattern;
import java.util.stream.Stream;

/** README.md holds: what it shows of the use of the class, and how its tests are run. */
public final class ReadmeTest extends Checks {
    private static final Pattern MAKING = Pattern.compile("Radixtape tape = new Radixtape\\(\\);\\s+// (.*)");
    private static final Pattern CALL = Pattern.compile("(tape\\.(\\w+)\\(.*?\\));\\s+// (throws \\w+|[^:]*)(: .*)?");
    private static final Pattern TAPE_IS = Pattern.compile("the tape is \"([^\"]*)\"");
    private static final Pattern REGISTER_IS = Pattern.compile("register (\\d) is (-?\\d+)");

    /** The folder that README.md names for one's own trials. */
    private static final String TRIAL = "/tmp/out";
    private static final String TESTS = "src/test/java";

    public static void main(String[] args) throws Exception {
        List<String> page = Files.readAllLines(Path.of(args.length > 2 ? args[2] : "README.md"));
        List<String> shown = blocks(page);
        allCallsAreShown(shown);
        new Compiled(ReadmeTest.class.getClassLoader(), "Shown", programOf(shown))
                .loadClass("Shown").getMethod("run").invoke(null);
        eachTestIsNamed(page);
        linesForOneTestWork(page);
        end("what README.md shows holds");
    }

    // ---- what the program of the page asks back

    /** An answer as the page writes it, or the exception. */
    public interface Answer {
        Object give();
    }

    public static void dueAnswer(String line, Answer answer, String want) {
        String got;
        try {
            got = String.valueOf(answer.give());
        } catch (RuntimeException e) {
            got = "throws " + e.getClass().getSimpleName();
        }
        dueString(line, got, want);
    }

    public static void dueTape(String line, Radixtape x, String want) {
        dueText(line, x, want);
    }

    public static void dueRegister(String line, Radixtape x, int register, long want) {
        dueNumber(line, x, register, want);
    }

    // ---- the use of the class

    private static List<String> blocks(List<String> page) {
        List<String> lines = new ArrayList<>();
        boolean isInside = false;
        for (String line : page) {
            boolean isEdge = line.startsWith("```");
            if (isInside && !isEdge) {
                lines.add(line);
            }
            isInside = isEdge ? line.equals("```java") : isInside;
        }
        return lines;
    }

    private static void allCallsAreShown(List<String> lines) {
        List<String> shown = new ArrayList<>();
        for (String line : lines) {
            Matcher call = CALL.matcher(line);
            if (call.matches()) {
                shown.add(call.group(2));
            }
        }
        for (Method method : Radixtape.class.getDeclaredMethods()) {
            boolean isShown = shown.contains(method.getName()) || !Modifier.isPublic(method.getModifiers());
            due("the page shows " + method.getName() + ", which", isShown, true);
        }
    }

    /** The lines of the page, each with the questions whether what stands behind it is so. */
    private static String programOf(List<String> lines) {
        StringBuilder program = new StringBuilder("public final class Shown {\n    public static void run() {\n");
        for (String line : lines) {
            program.append(statementOf(line));
        }
        return program.append("    }\n}\n").toString();
    }

    private static String statementOf(String line) {
        Matcher making = MAKING.matcher(line);
        if (making.matches()) {
            return "Radixtape tape = new Radixtape();\n" + claimsOf(line, making.group(1));
        }
        Matcher call = CALL.matcher(line);
        if (call.matches()) {
            String claims = call.group(4) == null ? "" : call.group(4);
            return "ReadmeTest.dueAnswer(" + quoted(line) + ", () -> " + call.group(1) + ", "
                    + quoted(call.group(3).strip()) + ");\n" + claimsOf(line, claims);
        }
        report("not a call with its answer behind it: " + line);
        return "";
    }

    private static String claimsOf(String line, String claims) {
        StringBuilder questions = new StringBuilder();
        Matcher tape = TAPE_IS.matcher(claims);
        while (tape.find()) {
            questions.append("ReadmeTest.dueTape(" + quoted(line) + ", tape, " + quoted(tape.group(1)) + ");\n");
        }
        Matcher register = REGISTER_IS.matcher(claims);
        while (register.find()) {
            questions.append("ReadmeTest.dueRegister(" + quoted(line) + ", tape, " + register.group(1) + ", "
                    + register.group(2) + "L);\n");
        }
        return questions.toString();
    }

    private static String quoted(String text) {
        return "\"" + text.replace("\\", "\\\\").replace("\"", "\\\"") + "\"";
    }

    // ---- the tests

    private static void eachTestIsNamed(List<String> page) {
        String whole = String.join("\n", page);
        File[] tests = new File(TESTS).listFiles();
        due("there are tests, which", tests != null && tests.length > 0, true);
        for (File test : tests == null ? new File[0] : tests) {
            String name = test.getName().replace(".java", "");
            due("the page names " + name + ", which", whole.contains("`" + name + "`"), true);
        }
    }

    private static void linesForOneTestWork(List<String> page) throws IOException, InterruptedException {
        Path trial = Files.createTempDirectory("readme");
        int lines = 0;
        for (String line : page) {
            if (line.startsWith("    java")) {
                lines++;
                String command = line.strip().replace(TRIAL, trial.toString());
                due("'" + line.strip() + "' ended, which", endOf(command), 0);
            }
        }
        due("lines for one test", lines, 2);
        deleteAll(trial);
    }

    private static int endOf(String command) throws IOException, InterruptedException {
        return new ProcessBuilder("sh", "-c", command).inheritIO().start().waitFor();
    }

    private static void deleteAll(Path folder) throws IOException {
        try (Stream<Path> found = Files.walk(folder)) {
            for (Path path : found.sorted(Comparator.reverseOrder()).toList()) {
                Files.delete(path);
            }
        }
    }
}
