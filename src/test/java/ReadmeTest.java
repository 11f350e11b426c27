import java.io.IOException;
import java.lang.reflect.Field;
import java.lang.reflect.Method;
import java.lang.reflect.Modifier;
import java.nio.file.Files;
import java.nio.file.Path;
import java.util.TreeSet;
import java.util.regex.Matcher;
import java.util.regex.Pattern;

/** README.md tells no more and no less than what is so: its example, its list of calls, its tests. */
public final class ReadmeTest {
    private static final Checks CHECKS = new Checks("ReadmeTest");
    private static final Pattern TEXT = Pattern.compile("for \\(char c : \"(.*)\"\\.toCharArray\\(\\)\\)");
    private static final Pattern ASKED = Pattern.compile("(?m)^plane\\.(\\w+)\\((.*)\\); +// (-?\\d+): ");
    private static final Pattern ROW = Pattern.compile("(?m)^\\| `(?:new )?(\\w+)\\((.*?)\\)` \\|");
    private static final Pattern CONSTANT = Pattern.compile("`([A-Z]+)` \\((-?\\d+)\\)");
    private static final Pattern TEST = Pattern.compile("(?m)^- `(\\w+Test)`: ");

    public static void main(String[] args) throws IOException, ReflectiveOperationException {
        String readme = Files.readString(Path.of("README.md"));
        exampleAnswersAsTold(readme);
        everyCallIsListed(readme);
        everyConstantIsListed(readme);
        everyTestIsListed(readme);
        CHECKS.end();
    }

    private static void exampleAnswersAsTold(String readme) throws ReflectiveOperationException {
        Matcher text = TEXT.matcher(readme);
        CHECKS.due("README.md has an example", text.find(), true);
        PlaneCells plane = new PlaneCells();
        CHECKS.due("the example's text is taken", Checks.write(plane, text.group(1)), true);
        TreeSet<String> seen = new TreeSet<>();
        seen.add("write");
        Matcher asked = ASKED.matcher(readme);
        while (asked.find()) {
            String call = asked.group(1) + "(" + asked.group(2) + ")";
            CHECKS.due(call, answer(plane, asked.group(1), asked.group(2)), Integer.parseInt(asked.group(3)));
            seen.add(asked.group(1));
        }
        for (String name : namesOfCalls()) {
            CHECKS.due("the example shows " + name, seen.contains(name), true);
        }
    }

    private static int answer(PlaneCells plane, String name, String written) throws ReflectiveOperationException {
        String[] numbers = written.isEmpty() ? new String[0] : written.split(", ");
        Class<?>[] types = new Class<?>[numbers.length];
        Object[] arguments = new Object[numbers.length];
        for (int i = 0; i < numbers.length; i++) {
            types[i] = int.class;
            arguments[i] = Integer.valueOf(numbers[i]);
        }
        return (Integer) PlaneCells.class.getMethod(name, types).invoke(plane, arguments);
    }

    private static TreeSet<String> namesOfCalls() {
        TreeSet<String> names = new TreeSet<>();
        for (Method m : PlaneCells.class.getDeclaredMethods()) {
            if (Modifier.isPublic(m.getModifiers())) {
                names.add(m.getName());
            }
        }
        return names;
    }

    private static void everyCallIsListed(String readme) {
        TreeSet<String> due = new TreeSet<>();
        due.add("PlaneCells/0");
        for (Method m : PlaneCells.class.getDeclaredMethods()) {
            if (Modifier.isPublic(m.getModifiers())) {
                due.add(m.getName() + "/" + m.getParameterCount());
            }
        }
        TreeSet<String> listed = new TreeSet<>();
        Matcher row = ROW.matcher(readme);
        while (row.find()) {
            int arguments = row.group(2).isEmpty() ? 0 : row.group(2).split(", ").length;
            listed.add(row.group(1) + "/" + arguments);
        }
        CHECKS.due("listed calls " + listed, listed.equals(due), true);
    }

    private static void everyConstantIsListed(String readme) throws IllegalAccessException {
        TreeSet<String> due = new TreeSet<>();
        for (Field f : PlaneCells.class.getFields()) {
            due.add(f.getName() + " " + f.getInt(null));
        }
        TreeSet<String> listed = new TreeSet<>();
        Matcher constant = CONSTANT.matcher(readme);
        while (constant.find()) {
            listed.add(constant.group(1) + " " + constant.group(2));
        }
        CHECKS.due("listed constants " + listed, listed.equals(due), true);
    }

    private static void everyTestIsListed(String readme) throws IOException {
        TreeSet<String> due = new TreeSet<>();
        try (var files = Files.newDirectoryStream(Path.of("src/test/java"), "*Test.java")) {
            for (Path file : files) {
                due.add(file.getFileName().toString().replace(".java", ""));
            }
        }
        TreeSet<String> listed = new TreeSet<>();
        Matcher test = TEST.matcher(readme);
        while (test.find()) {
            listed.add(test.group(1));
        }
        CHECKS.due("listed tests " + listed, listed.equals(due), true);
        CHECKS.due("the command of the tests is told", readme.contains("\n.ci/run\n"), true);
        CHECKS.due("that command is there", Files.isExecutable(Path.of(".ci/run")), true);
    }
}
