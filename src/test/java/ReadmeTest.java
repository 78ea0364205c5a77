import java.io.File;
import java.io.IOException;
import java.lang.reflect.InvocationTargetException;
import java.lang.reflect.Method;
import java.lang.reflect.Modifier;
import java.net.URL;
import java.net.URLClassLoader;
import java.nio.file.Files;
import java.nio.file.Path;
import java.util.ArrayList;
import java.util.List;
import java.util.Map;
import java.util.TreeMap;
import java.util.TreeSet;
import java.util.regex.Matcher;
import java.util.regex.Pattern;
import javax.tools.JavaCompiler;
import javax.tools.ToolProvider;

/** What README.md says: its example with each answer in it, a row for each call of the face, ranges, tests named. */
public final class ReadmeTest {
    private static final Pattern EXAMPLE_LINE = Pattern.compile("(int|boolean) (\\w+) = (.*);\\s*// (-?\\w+)(:.*)?");
    private static final Pattern ROW = Pattern.compile("(?m)^\\| `(\\w+)\\(([^)]*)\\)` \\|(.*)\\|(.*)\\|$");
    private static final Pattern RANGE = Pattern.compile("\\b(\\w+) (\\d+) (?:\\.\\. ([\\d,]+)|and on)");
    private static final Pattern FACE_LINE = Pattern.compile("(?m)^ +public (?:int|boolean) (\\w+)\\(([^)]*)\\);");
    private static int looked;
    private static int wrong;

    private ReadmeTest() {
    }

    public static void main(String[] args) throws Exception {
        String readme = Files.readString(Path.of("README.md"));
        lookAtExample(readme);
        lookAtRows(readme);
        lookAtRanges(readme);
        lookAtLimits(readme);
        lookAtTestsNamed(readme);
        System.out.println("README.md: " + looked + " sayings, " + wrong + " of them do not hold");
        if (wrong != 0) {
            System.exit(1);
        }
    }

    private static void due(String what, Object got, Object want) {
        looked++;
        if (!want.equals(got)) {
            wrong++;
            System.out.println(what + ": is " + got + ", due is " + want);
        }
    }

    private static void lookAtExample(String readme) throws Exception {
        Matcher block = Pattern.compile("(?s)```java\n(.*?)```").matcher(readme);
        due("there is an example", block.find(), true);
        StringBuilder code = new StringBuilder("public final class ReadmeExample {\n"
                + "    public static void answer(java.util.Map<String, Object> answers) {\n");
        Map<String, String> told = new TreeMap<>();
        for (String line : block.group(1).split("\n")) {
            code.append(line).append('\n');
            Matcher answer = EXAMPLE_LINE.matcher(line);
            if (answer.matches()) {
                told.put(answer.group(2), answer.group(4));
                code.append("answers.put(\"").append(answer.group(2)).append("\", ").append(answer.group(2)).append(");\n");
            } else {
                due("a line without an answer", line, "PlaceTimePlans plans = new PlaceTimePlans();");
            }
        }
        Map<String, Object> answers = new TreeMap<>();
        runExample(code.append("    }\n}\n").toString(), answers);
        for (Map.Entry<String, String> entry : told.entrySet()) {
            due("the example's " + entry.getKey(), String.valueOf(answers.get(entry.getKey())), entry.getValue());
        }
    }

    private static void runExample(String code, Map<String, Object> answers) throws Exception {
        Path folder = Files.createTempDirectory("readme");
        Path source = folder.resolve("ReadmeExample.java");
        Files.writeString(source, code);
        JavaCompiler compiler = ToolProvider.getSystemJavaCompiler();
        String classes = System.getProperty("java.class.path");
        int failed = compiler.run(null, null, null, "-cp", classes, "-d", folder.toString(), source.toString());
        due("the example does not compile", failed, 0);
        if (failed == 0) {
            try (URLClassLoader loader = new URLClassLoader(new URL[] {folder.toUri().toURL()})) {
                loader.loadClass("ReadmeExample").getMethod("answer", Map.class).invoke(null, answers);
            }
        }
        for (File made : folder.toFile().listFiles()) {
            Files.delete(made.toPath());
        }
        Files.delete(folder);
    }

    /** Each call of the document's face has one row, with the names that the document gives to what it takes. */
    private static void lookAtRows(String readme) throws IOException {
        List<String> rows = new ArrayList<>();
        Matcher row = ROW.matcher(readme);
        while (row.find()) {
            rows.add(row.group(1) + "(" + row.group(2) + ")");
        }
        List<String> face = new ArrayList<>();
        Path document = Path.of("../shared/DOC.md");
        Matcher line = FACE_LINE.matcher(Files.readString(document));
        while (line.find()) {
            face.add(line.group(1) + "(" + line.group(2).replaceAll("(int|boolean) ", "") + ")");
        }
        due("calls of the face", face.size(), 25);
        due("the calls that have a row", new TreeSet<>(rows), new TreeSet<>(face));
        due("rows", rows.size(), face.size());
    }

    private static void lookAtRanges(String readme) throws ReflectiveOperationException {
        int ranges = 0;
        Matcher row = ROW.matcher(readme);
        while (row.find()) {
            List<String> names = List.of(row.group(2).split(", "));
            Matcher range = RANGE.matcher(row.group(4));
            while (range.find()) {
                ranges++;
                int place = names.indexOf(range.group(1));
                due(row.group(1) + " takes " + range.group(1), place >= 0, true);
                int least = Integer.parseInt(range.group(2));
                String last = range.group(3);
                int greatest = last == null ? Integer.MAX_VALUE : Integer.parseInt(last.replace(",", ""));
                lookAtRange(row.group(1), Math.max(0, place), least, greatest);
            }
        }
        due("ranges", ranges, 22);
    }

    private static void lookAtRange(String call, int place, int least, int greatest) throws ReflectiveOperationException {
        due(call + ": least " + least, isTaken(call, place, least), true);
        due(call + ": below " + least, isTaken(call, place, least - 1), false);
        due(call + ": greatest " + greatest, isTaken(call, place, greatest), true);
        if (greatest < Integer.MAX_VALUE) {
            due(call + ": above " + greatest, isTaken(call, place, greatest + 1), false);
        }
    }

    /** Whether a call takes a number at one place of what it takes, all else being what it takes surely. */
    private static boolean isTaken(String call, int place, int number) throws ReflectiveOperationException {
        PlaceTimePlans plans = new PlaceTimePlans();
        plans.crew(0);
        plans.work(0, 0, 20, 5, true);
        // With one work already the first try finds a plan, so that BAD tells of a refusal alone.
        if (!call.equals("run") && !call.equals("replan")) {
            plans.work(0, 5, 30, 3, true);
        }
        plans.run(20000);
        for (Method method : PlaceTimePlans.class.getDeclaredMethods()) {
            if (method.getName().equals(call) && Modifier.isPublic(method.getModifiers())) {
                Object[] given = taken(call);
                given[place] = number;
                return isAnswer(method, plans, given);
            }
        }
        return false;
    }

    private static boolean isAnswer(Method method, PlaceTimePlans plans, Object[] given)
            throws IllegalAccessException, InvocationTargetException {
        Object answer = method.invoke(plans, given);
        return answer instanceof Boolean ? (Boolean) answer : (Integer) answer != PlaceTimePlans.BAD;
    }

    private static Object[] taken(String call) {
        switch (call) {
            case "work":
                return new Object[] {0, 0, 20, 5, true};
            case "after":
                return new Object[] {0, 1, 3};
            case "bar":
                return new Object[] {0, 5, 3};
            case "passes":
                return new Object[] {0, 7, false, 1};
            case "odds":
                return new Object[] {12, 10, 30, 7};
            case "learned":
                return new Object[] {0, 50, 7};
            case "most", "late", "told", "at", "under":
                return new Object[] {0, 1};
            default:
                return new Object[] {1};
        }
    }

    /** The project's tests and what README.md names are the same files. */
    private static void lookAtTestsNamed(String readme) {
        TreeSet<String> tests = new TreeSet<>();
        for (String name : new File("src/test/java").list()) {
            if (name.endsWith("Test.java")) {
                tests.add(name);
            }
            due("README.md names " + name, readme.contains(name.replace(".java", "")), true);
        }
        TreeSet<String> named = new TreeSet<>();
        Matcher test = Pattern.compile("`src/test/java/(\\w+Test\\.java)`").matcher(readme);
        while (test.find()) {
            named.add(test.group(1));
        }
        due("the tests named", named, tests);
    }

    /** How many crews, works and bars there can be: more are told than are taken. */
    private static void lookAtLimits(String readme) {
        PlaceTimePlans plans = new PlaceTimePlans();
        for (int time = 0; time < 20; time++) {
            plans.crew(0);
            plans.work(0, 0, 20, 5, true);
            plans.bar(0, 5, 3);
        }
        Map<String, Integer> limits = Map.of("crews", plans.count(0), "works", plans.count(1), "bars", plans.count(3));
        int many = 0;
        Matcher limit = Pattern.compile("(\\d+) (crews|works|bars) in all").matcher(readme);
        while (limit.find()) {
            many++;
            due(limit.group(2) + " in all", limits.get(limit.group(2)), Integer.parseInt(limit.group(1)));
        }
        due("limits", many, 3);
    }
}
