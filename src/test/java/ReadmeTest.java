import java.io.PrintWriter;
import java.lang.reflect.InvocationTargetException;
import java.lang.reflect.Method;
import java.nio.file.Files;
import java.nio.file.Path;
import java.util.ArrayList;
import java.util.Arrays;
import java.util.List;
import java.util.regex.Matcher;
import java.util.regex.Pattern;
import java.util.spi.ToolProvider;

/** What README.md says of the class: its examples and its tables, against what the class answers and the document names. */
public final class ReadmeTest {
    private static final Check CHECK = new Check("ReadmeTest");
    private static final Pattern EXAMPLE = Pattern.compile("^([\\w.]+\\(.*\\));\\s+// (-?[\\d.]*\\d|[A-Z_]+)(:.*)?$");
    private static final Pattern RANGE = Pattern.compile("(\\w+) (\\d+) to (\\d+)");
    private static final Pattern CODE = Pattern.compile("\\b(NO_SUCH|BAD_VALUE|BAD_TEXT|TOO_MANY|NOT_POSSIBLE|NONE)\\b");

    public static void main(String[] args) throws Exception {
        List<String> lines = Files.readAllLines(Path.of("README.md"));
        examples(lines);
        errors(rows(lines, "Errors"));
        List<String[]> calls = rows(lines, "Calls");
        namedAsInTheDocument(calls);
        for (String[] call : calls) {
            ranges(call);
        }
        settings(rows(lines, "Settings"));
        theBoundOnCalls(lines);
        CHECK.end();
    }

    /** Makes a class of all examples, in which each answer that stands behind a call is looked at, and runs it. */
    private static void examples(List<String> lines) throws Exception {
        StringBuilder code = new StringBuilder("final class ReadmeExamples {\n    static void run(Check check) {\n");
        boolean inside = false;
        int answers = 0;
        for (String line : lines) {
            Matcher example = EXAMPLE.matcher(line);
            if (line.startsWith("```")) {
                inside = line.equals("```java");
            } else if (inside && example.matches()) {
                answers++;
                String due = example.group(2);
                code.append("check.same(\"").append(example.group(1)).append("\", String.valueOf(").append(example.group(1)).append("), ")
                        .append(CODE.matcher(due).matches() ? "String.valueOf(SilentDrives." + due + ")" : "\"" + due + "\"").append(");\n");
            } else if (inside) {
                CHECK.due("an answer that could not be read: " + line, line.contains(" // ") ? 1 : 0, 0);
                code.append(line).append('\n');
            }
        }
        CHECK.due("examples with an answer were found", answers > 30 ? 1 : 0, 1);
        compileAndRun(code.append("    }\n}\n").toString());
    }

    private static void compileAndRun(String code) throws Exception {
        Path folder = Path.of(Check.class.getProtectionDomain().getCodeSource().getLocation().toURI());
        Path file = Files.writeString(folder.resolve("ReadmeExamples.java"), code);
        ToolProvider javac = ToolProvider.findFirst("javac").orElseThrow();
        PrintWriter out = new PrintWriter(System.out, true);
        int failed = javac.run(out, out, "-cp", folder.toString(), "-d", folder.toString(), file.toString());
        CHECK.due("javac of the examples", failed, 0);
        if (failed == 0) {
            Method run = Class.forName("ReadmeExamples").getDeclaredMethod("run", Check.class);
            run.invoke(null, CHECK);
        }
    }

    /** The rows of the table under a heading, without its head. */
    private static List<String[]> rows(List<String> lines, String heading) {
        List<String[]> rows = new ArrayList<>();
        int at = lines.indexOf("### " + heading) + 1;
        CHECK.due("the heading " + heading + " was found", at > 0 ? 1 : 0, 1);
        for (; at < lines.size() && !lines.get(at).startsWith("#"); at++) {
            if (lines.get(at).startsWith("| `")) {
                rows.add(lines.get(at).replaceAll("`", "").replaceFirst("^\\| ", "").split(" ?\\| ?", -1));
            }
        }
        return rows;
    }

    private static void errors(List<String[]> rows) throws ReflectiveOperationException {
        CHECK.due("error codes and NONE", rows.size(), 6);
        for (String[] row : rows) {
            CHECK.due(row[0], SilentDrives.class.getField(row[0]).getInt(null), Integer.parseInt(row[1]));
        }
    }

    private static void namedAsInTheDocument(List<String[]> rows) throws Exception {
        Document document = Document.read(Path.of("..", "shared", "DOC.md"));
        List<String> due = document.calls();
        due.remove(0);
        List<String> got = new ArrayList<>();
        for (String[] row : rows) {
            String name = row[0].replaceFirst("\\(.*", "");
            got.add(name);
            String text = document.promiseOf(name);
            Matcher as = Pattern.compile("errors as for (\\w+)\\(\\)").matcher(text);
            CHECK.same("errors of " + name, codes(row[3]).toString(),
                    codes(as.find() ? document.promiseOf(as.group(1)) : text).toString());
        }
        CHECK.same("the calls", got.toString(), due.toString());
    }

    private static List<String> codes(String text) {
        List<String> codes = new ArrayList<>();
        Matcher code = CODE.matcher(text);
        while (code.find()) {
            codes.add(code.group());
        }
        return codes;
    }

    /** Each argument in turn at the ends of its range, and beside them; the others are the least ones. */
    private static void ranges(String[] row) throws ReflectiveOperationException {
        String[] names = row[0].replaceFirst("^\\w+\\(", "").replace(")", "").split(", ");
        List<int[]> ranges = new ArrayList<>();
        Matcher range = RANGE.matcher(row[1]);
        while (range.find() && ranges.size() < names.length && range.group(1).equals(names[ranges.size()])) {
            ranges.add(new int[] {Integer.parseInt(range.group(2)), Integer.parseInt(range.group(3))});
        }
        boolean toldElsewhere = row[0].startsWith("set(") || row[0].startsWith("put(");
        if (toldElsewhere || names[0].isEmpty()) {
            return;
        }
        CHECK.due("ranges told of " + row[0], ranges.size(), names.length);
        for (int i = 0; i < ranges.size(); i++) {
            int error = names[i].equals("drive") ? SilentDrives.NO_SUCH : SilentDrives.BAD_VALUE;
            for (int end = 0; end < 2; end++) {
                Object[] arguments = ranges.stream().map(r -> r[0]).toArray();
                arguments[i] = ranges.get(i)[end];
                long inside = answer(row[0], arguments);
                CHECK.due(row[0] + " of " + Arrays.toString(arguments) + " is out of range", inside == error ? 1 : 0, 0);
                arguments[i] = ranges.get(i)[end] + (end == 0 ? -1 : 1);
                CHECK.due(row[0] + " of " + Arrays.toString(arguments), answer(row[0], arguments), error);
            }
        }
    }

    private static long answer(String call, Object[] arguments) throws IllegalAccessException, InvocationTargetException {
        for (Method method : SilentDrives.class.getMethods()) {
            if (call.startsWith(method.getName() + "(") && method.getDeclaringClass() == SilentDrives.class) {
                return ((Number) method.invoke(new SilentDrives(), arguments)).longValue();
            }
        }
        CHECK.same("the call", call, "one of the class");
        return 0;
    }

    private static void settings(List<String[]> rows) throws ReflectiveOperationException {
        CHECK.due("settings", rows.size(), 7);
        for (String[] row : rows) {
            int setting = Integer.parseInt(row[1]);
            CHECK.due(row[0], SilentDrives.class.getField(row[0]).getInt(null), setting);
            int least = Integer.parseInt(row[2].replaceFirst(" to .*", ""));
            int most = Integer.parseInt(row[2].replaceFirst(".* to ", ""));
            SilentDrives x = new SilentDrives();
            CHECK.due(row[0] + " of a new object", x.set(setting, least), Integer.parseInt(row[3]));
            CHECK.due("least " + row[0], x.set(setting, most), least);
            CHECK.due("most " + row[0], x.set(setting, least), most);
            CHECK.due(row[0] + " below its range", x.set(setting, least - 1), SilentDrives.BAD_VALUE);
            CHECK.due(row[0] + " above its range", x.set(setting, most + 1), SilentDrives.BAD_VALUE);
        }
    }

    private static void theBoundOnCalls(List<String> lines) throws Exception {
        Matcher bound = Pattern.compile("used for at most (\\d+) calls").matcher(Files.readString(Path.of("..", "shared", "DOC.md")));
        CHECK.due("the document's bound on calls was found", bound.find() ? 1 : 0, 1);
        CHECK.due("the bound is told", String.join(" ", lines).contains(bound.group()) ? 1 : 0, 1);
    }
}
