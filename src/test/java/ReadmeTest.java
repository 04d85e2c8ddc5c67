import java.io.IOException;
import java.lang.reflect.InvocationTargetException;
import java.lang.reflect.Method;
import java.nio.file.Files;
import java.nio.file.Path;
import java.util.ArrayList;
import java.util.Arrays;
import java.util.List;
import java.util.Map;
import java.util.TreeMap;
import java.util.regex.Matcher;
import java.util.regex.Pattern;

/** README.md tells the truth: its examples are played, and its tables are compared with the class. */
public final class ReadmeTest {
    private static final Pattern MADE = Pattern.compile("DealtSecret deal = new DealtSecret\\((.*)\\);.*");
    private static final Pattern CALLED = Pattern.compile("deal\\.(\\w+)\\((.*)\\);\\s*(?://\\s*(.*))?");
    private static final Pattern ROW = Pattern.compile("\\| `(\\w+)\\(.*?\\)` \\|(.*)\\|(.*)\\|(.*)\\|");
    private static final Pattern STAGE_ROW = Pattern.compile("\\| (\\d) \\|.*?\\|(.*)\\|(.*)\\|");
    private static final Pattern QUOTED = Pattern.compile("`(\\w+)`");
    private static final int STAGES = 7;

    private static final Map<String, Method> FACE = new TreeMap<>();

    public static void main(String[] args) throws IOException {
        for (Method method : DealtSecret.class.getMethods()) {
            if (method.getDeclaringClass() == DealtSecret.class) {
                FACE.put(method.getName(), method);
            }
        }
        List<String> lines = Files.readAllLines(Path.of("README.md"));
        playExamples(lines);
        compareExceptions(lines);
        compareStages(lines);
        nameEveryCall(lines);
        nameEveryTest(lines);
        Checks.end("ReadmeTest");
    }

    // ---- examples

    private static void playExamples(List<String> lines) {
        Checks.about("README: the examples");
        boolean inside = false;
        DealtSecret deal = null;
        for (String line : lines) {
            if (line.startsWith("```")) {
                inside = line.equals("```java");
                deal = null;
            } else if (inside) {
                deal = played(deal, line);
            }
        }
    }

    private static DealtSecret played(DealtSecret deal, String line) {
        Matcher made = MADE.matcher(line);
        if (made.matches()) {
            int[] group = Arrays.stream(made.group(1).split(", ")).mapToInt(Integer::parseInt).toArray();
            return Deals.in(group);
        }
        Matcher called = CALLED.matcher(line);
        Checks.yes("can be played: " + line, deal != null && called.matches());
        Method method = FACE.get(called.group(1));
        Checks.same(line, outcome(deal, method, arguments(called.group(2))), dueAnswer(method, called.group(3)));
        return deal;
    }

    private static Object[] arguments(String text) {
        if (text.isEmpty()) {
            return new Object[0];
        }
        return Arrays.stream(text.split(", ")).map(ReadmeTest::argument).toArray();
    }

    private static Object argument(String text) {
        if (text.equals("true") || text.equals("false")) {
            return Boolean.valueOf(text);
        }
        return Integer.valueOf(text);
    }

    /** What stands before the colon; a call that answers nothing may have any comment, or none. */
    private static String dueAnswer(Method method, String comment) {
        String told = comment == null ? "" : comment.split(":")[0];
        if (method.getReturnType() == void.class && !told.startsWith("throws ")) {
            return "null";
        }
        return told;
    }

    private static String outcome(DealtSecret deal, Method method, Object[] arguments) {
        try {
            return String.valueOf(method.invoke(deal, arguments));
        } catch (InvocationTargetException e) {
            return "throws " + e.getCause().getClass().getSimpleName();
        } catch (IllegalAccessException e) {
            return "is not public";
        }
    }

    // ---- tables

    private static void compareExceptions(List<String> lines) {
        Checks.about("README: what a call throws");
        List<String> silent = new ArrayList<>(FACE.keySet());
        for (String line : lines) {
            Matcher row = ROW.matcher(line);
            if (row.matches()) {
                String name = row.group(1);
                Checks.yes("one row for " + name, silent.remove(name));
                compareRow(FACE.get(name), row);
            }
        }
        for (String name : silent) {
            Checks.same("exceptions of " + name, FACE.get(name).getExceptionTypes().length, 0);
        }
    }

    private static void compareRow(Method method, Matcher row) {
        List<Class<?>> declared = Arrays.asList(method.getExceptionTypes());
        List<Class<?>> columns = List.of(Deals.STATE, Deals.ARGUMENT, Deals.MISSING);
        for (int k = 0; k < columns.size(); k++) {
            Checks.same(row.group(1) + " has a word on " + columns.get(k), !row.group(k + 2).isBlank(),
                    declared.contains(columns.get(k)));
        }
        String told = row.group(2).isBlank() ? "0, 1, 2, 3, 4, 5, 6" : row.group(2).strip();
        Checks.same("stages of " + row.group(1), stagesOf(method).toString(), "[" + told + "]");
    }

    private static List<Integer> stagesOf(Method method) {
        List<Integer> stages = new ArrayList<>();
        for (int stage = 0; stage < STAGES; stage++) {
            String outcome = outcome(Deals.usualAt(stage), method, ones(method));
            if (!outcome.equals("throws IllegalStateException")) {
                stages.add(stage);
            }
        }
        return stages;
    }

    /** 1 is a participant, a coefficient and a commitment of the usual deal, and a deal may be of 1. */
    private static Object[] ones(Method method) {
        Object[] arguments = new Object[method.getParameterCount()];
        for (int k = 0; k < arguments.length; k++) {
            arguments[k] = argument(method.getParameterTypes()[k] == boolean.class ? "true" : "1");
        }
        return arguments;
    }

    private static void compareStages(List<String> lines) {
        Checks.about("README: the stages");
        int rows = 0;
        for (String line : lines) {
            Matcher row = STAGE_ROW.matcher(line);
            if (row.matches()) {
                int stage = Integer.parseInt(row.group(1));
                Checks.same("row of the stage", stage, rows);
                Checks.same("what can be done in stage " + stage, quoted(row.group(2)), possibleIn(stage));
                Checks.same("next to stage " + stage, next(stage), row.group(3).strip().split(",")[0]);
                rows++;
            }
        }
        Checks.same("rows of stages", rows, STAGES);
    }

    private static String quoted(String cell) {
        List<String> names = new ArrayList<>();
        for (Matcher name = QUOTED.matcher(cell); name.find();) {
            names.add(name.group(1));
        }
        names.sort(null);
        return names.toString();
    }

    /** Begin is told at stage 0 for all, and advance has a column of its own. */
    private static String possibleIn(int stage) {
        List<String> names = new ArrayList<>();
        for (Map.Entry<String, Method> entry : FACE.entrySet()) {
            List<Integer> stages = stagesOf(entry.getValue());
            boolean everywhere = stages.size() == STAGES;
            boolean told = everywhere ? stage == 0 && entry.getKey().equals("begin") : stages.contains(stage);
            if (told && !entry.getKey().equals("advance")) {
                names.add(entry.getKey());
            }
        }
        return names.toString();
    }

    private static String next(int stage) {
        String outcome = outcome(Deals.usualAt(stage), FACE.get("advance"), new Object[0]);
        return outcome.startsWith("throws ") ? "" : outcome;
    }

    // ---- nothing left out

    private static void nameEveryCall(List<String> lines) {
        Checks.about("README: names every call");
        String text = String.join("\n", lines);
        for (String name : FACE.keySet()) {
            Checks.yes(name, text.contains("`" + name + "`") || text.contains("`" + name + "("));
        }
    }

    private static void nameEveryTest(List<String> lines) throws IOException {
        Checks.about("README: names every test");
        try (var files = Files.list(Path.of("src/test/java"))) {
            for (Path file : files.toList()) {
                String name = file.getFileName().toString().replace(".java", "");
                Checks.yes(name, String.join("\n", lines).contains("`" + name + "`"));
            }
        }
    }
}
