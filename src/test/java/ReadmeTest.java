import java.io.IOException;
import java.lang.reflect.Method;
import java.nio.file.DirectoryStream;
import java.nio.file.Files;
import java.nio.file.Path;
import java.util.ArrayList;
import java.util.Arrays;
import java.util.List;
import java.util.regex.Matcher;
import java.util.regex.Pattern;

/** What README.md shows as a use answers what it says there, its command is there, and its table has each test. */
public final class ReadmeTest {
    private static final String FIRST_LINE = "SpanBench x = new SpanBench();";
    private static final Pattern CALL = Pattern.compile("x\\.(\\w+)\\(([^()]*)\\);\\s*(?://\\s*(.*))?");
    private static final Pattern ANSWER = Pattern.compile("(-?\\d+)(?::.*)?");

    public static void main(String[] args) throws IOException, ReflectiveOperationException {
        List<String> readme = Files.readAllLines(Path.of("README.md"));
        theUse(block(readme, "java"));
        theCommands(block(readme, "sh"));
        theTable(readme);
        Due.end();
    }

    private static List<String> block(List<String> readme, String kind) {
        int from = readme.indexOf("```" + kind);
        Due.is("README.md has a block of " + kind, from >= 0, true);
        List<String> lines = new ArrayList<>();
        for (int i = from + 1; from >= 0 && i < readme.size() && !readme.get(i).equals("```"); i++) {
            if (!readme.get(i).isBlank()) {
                lines.add(readme.get(i).strip());
            }
        }
        return lines;
    }

    private static void theUse(List<String> lines) throws ReflectiveOperationException {
        Due.is("the use begins with " + FIRST_LINE, !lines.isEmpty() && lines.get(0).equals(FIRST_LINE), true);
        Due.is("the use shows calls", lines.size() > 1, true);
        SpanBench x = new SpanBench();
        for (int i = 1; i < lines.size(); i++) {
            Matcher call = CALL.matcher(lines.get(i));
            boolean isCall = call.matches();
            Due.is("'" + lines.get(i) + "' is a call", isCall, true);
            if (isCall) {
                oneCall(x, lines.get(i), call);
            }
        }
    }

    private static void oneCall(SpanBench x, String line, Matcher call) throws ReflectiveOperationException {
        Object answer = answerOf(x, call.group(1), call.group(2));
        if (answer instanceof Boolean taken) {
            Due.is(line, taken, true);
            return;
        }
        Matcher told = ANSWER.matcher(call.group(3) == null ? "" : call.group(3));
        boolean isTold = told.matches();
        Due.is("'" + line + "' tells the answer", isTold, true);
        if (isTold) {
            Due.is(line, ((Number) answer).longValue(), Long.parseLong(told.group(1)));
        }
    }

    private static Object answerOf(SpanBench x, String name, String numbers) throws ReflectiveOperationException {
        String[] parts = numbers.isBlank() ? new String[0] : numbers.split(",");
        Object[] arguments = new Object[parts.length];
        Class<?>[] types = new Class<?>[parts.length];
        Arrays.fill(types, int.class);
        for (int i = 0; i < parts.length; i++) {
            arguments[i] = Integer.decode(parts[i].strip());
        }
        Method method = SpanBench.class.getMethod(name, types);
        return method.invoke(x, arguments);
    }

    private static void theCommands(List<String> lines) {
        Due.is("README.md names a command", lines.isEmpty(), false);
        for (String line : lines) {
            Due.is(line + " can be run", Files.isExecutable(Path.of(line)), true);
        }
    }

    private static void theTable(List<String> readme) throws IOException {
        try (DirectoryStream<Path> tests = Files.newDirectoryStream(Path.of("src/test/java"), "*Test.java")) {
            for (Path test : tests) {
                String row = "| `" + test.getFileName().toString().replace(".java", "") + "` |";
                Due.is("a row " + row, readme.stream().filter(line -> line.startsWith(row)).count(), 1);
            }
        }
        for (String line : readme) {
            if (line.startsWith("| `")) {
                String name = line.substring(3, line.indexOf('`', 3));
                Due.is(name + " is there", Files.exists(Path.of("src/test/java", name + ".java")), true);
            }
        }
    }
}
