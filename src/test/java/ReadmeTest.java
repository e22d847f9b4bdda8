import java.io.IOException;
import java.lang.reflect.Constructor;
import java.lang.reflect.InvocationTargetException;
import java.lang.reflect.Method;
import java.lang.reflect.Modifier;
import java.nio.file.Files;
import java.nio.file.Path;
import java.util.ArrayList;
import java.util.List;
import java.util.Set;
import java.util.TreeSet;
import java.util.regex.Matcher;
import java.util.regex.Pattern;
import java.util.stream.Stream;

/** What README.md says is what the class does and what .ci/run runs. It is run from the project's directory. */
public final class ReadmeTest {
    private static final Check CHECK = new Check("ReadmeTest");
    private static final Pattern MADE = Pattern.compile(
            "SwapDesk desk = new SwapDesk\\((.*)\\); +// (\\d) parties, D is (\\d)");
    private static final Pattern CALLED = Pattern.compile("desk\\.(\\w+)\\((.*)\\); +// (throws \\w+|[-\\w]+)(: .*)?");
    private static final Pattern NAMED = Pattern.compile("\\| `(?:(\\w+) )?(\\w+)\\((.*?)\\)` \\| (.+) \\| (.+) \\|");
    private static final Pattern TEST = Pattern.compile("\\| `(\\w+Test)` \\| .+ \\|");
    private static final Pattern EXCEPTION = Pattern.compile("`(\\w+Exception)`: \\w");

    public static void main(String[] args) throws IOException, ReflectiveOperationException {
        List<String> lines = Files.readAllLines(Path.of("README.md"));
        examples(lines);
        examplesUseEveryCall(lines);
        calls(lines);
        tests(lines);
        howTestsAreRun(lines);
        CHECK.end();
    }

    /** The lines of all blocks of code in a language. */
    private static List<String> code(List<String> lines, String language) {
        List<String> code = new ArrayList<>();
        boolean inside = false;
        for (String line : lines) {
            if (inside && !line.equals("```")) {
                code.add(line);
            }
            inside = line.startsWith("```") ? line.equals("```" + language) : inside;
        }
        return code;
    }

    private static void examples(List<String> lines) throws ReflectiveOperationException {
        CHECK.says("README: the examples");
        SwapDesk desk = null;
        for (String line : code(lines, "java")) {
            Matcher made = MADE.matcher(line);
            Matcher called = CALLED.matcher(line);
            if (made.matches()) {
                Object[] given = values(made.group(1));
                CHECK.due(line, partiesOf(given), made.group(2).charAt(0) - '0');
                CHECK.due(line, delayOf(given), made.group(3).charAt(0) - '0');
                desk = made(given);
            } else if (desk != null && called.matches()) {
                CHECK.tell(line, answer(desk, called.group(1), values(called.group(2))), called.group(3));
            } else {
                CHECK.tell(line, "no call with its answer", "such a one");
            }
        }
    }

    private static SwapDesk made(Object[] given) {
        return new SwapDesk((int) given[0], (int) given[1]);
    }

    private static int partiesOf(Object[] given) {
        SwapDesk desk = made(given);
        int count = 0;
        while (count < 9 && desk.step(count) > 0) {
            count++;
        }
        return count;
    }

    /** Between two parties the span is 1, so an asset can be had back after 2 * D. */
    private static int delayOf(Object[] given) {
        SwapDesk desk = new SwapDesk(0, (int) given[1]);
        desk.arc(0, 1);
        desk.arc(1, 0);
        desk.plan();
        desk.deploy(0);
        int ticks = 0;
        while (ticks < 99 && answer(desk, "back", 0).startsWith("throws")) {
            ticks = desk.pass(1);
        }
        return ticks / 2;
    }

    private static Object[] values(String text) {
        List<Object> values = new ArrayList<>();
        for (String value : text.isEmpty() ? new String[0] : text.split(", ")) {
            boolean yesOrNo = value.equals("true") || value.equals("false");
            values.add(yesOrNo ? (Object) Boolean.valueOf(value) : (Object) Integer.valueOf(value));
        }
        return values.toArray();
    }

    private static String answer(SwapDesk desk, String name, Object... given) {
        for (Method method : SwapDesk.class.getMethods()) {
            if (method.getName().equals(name) && method.getParameterCount() == given.length) {
                return answer(desk, method, given);
            }
        }
        return "no such call";
    }

    private static String answer(SwapDesk desk, Method method, Object[] given) {
        try {
            Object answer = method.invoke(desk, given);
            return method.getReturnType() == void.class ? "nothing" : String.valueOf(answer);
        } catch (InvocationTargetException e) {
            return "throws " + e.getCause().getClass().getSimpleName();
        } catch (IllegalAccessException e) {
            return "not to be called";
        }
    }

    private static void examplesUseEveryCall(List<String> lines) {
        CHECK.says("README: every method comes up in an example");
        String code = String.join("\n", code(lines, "java"));
        for (Method method : SwapDesk.class.getDeclaredMethods()) {
            if (Modifier.isPublic(method.getModifiers())) {
                CHECK.due(method.getName(), code.contains("desk." + method.getName() + "("), true);
            }
        }
    }

    private static String types(Class<?>[] types) {
        List<String> names = new ArrayList<>();
        for (Class<?> type : types) {
            names.add(type.getSimpleName());
        }
        return String.join(" ", names);
    }

    private static void calls(List<String> lines) {
        CHECK.says("README: every call of the face, with what it throws");
        Set<String> due = new TreeSet<>();
        for (Constructor<?> made : SwapDesk.class.getConstructors()) {
            due.add("null SwapDesk(" + types(made.getParameterTypes()) + ") " + types(made.getExceptionTypes()));
        }
        for (Method method : SwapDesk.class.getDeclaredMethods()) {
            if (Modifier.isPublic(method.getModifiers())) {
                due.add(method.getReturnType().getSimpleName() + " " + method.getName()
                        + "(" + types(method.getParameterTypes()) + ") " + types(method.getExceptionTypes()));
            }
        }
        Set<String> got = new TreeSet<>();
        for (String line : lines) {
            Matcher named = NAMED.matcher(line);
            if (named.matches()) {
                String given = named.group(3).replaceAll("(\\w+) \\w+(, )?", "$1 ").trim();
                got.add(named.group(1) + " " + named.group(2) + "(" + given + ") " + thrown(named.group(5)));
            }
        }
        CHECK.tell("calls", String.join("\n", got), String.join("\n", due));
    }

    private static String thrown(String cell) {
        List<String> names = new ArrayList<>();
        Matcher exception = EXCEPTION.matcher(cell);
        while (exception.find()) {
            names.add(exception.group(1));
        }
        boolean told = cell.equals("nothing") == names.isEmpty();
        return told ? String.join(" ", names) : cell;
    }

    private static void tests(List<String> lines) throws IOException {
        CHECK.says("README: every test");
        Set<String> due = new TreeSet<>();
        try (Stream<Path> files = Files.list(Path.of("src/test/java"))) {
            files.map(file -> file.getFileName().toString())
                    .filter(name -> name.endsWith("Test.java"))
                    .forEach(name -> due.add(name.substring(0, name.length() - ".java".length())));
        }
        Set<String> got = new TreeSet<>();
        for (String line : lines) {
            Matcher test = TEST.matcher(line);
            if (test.matches()) {
                got.add(test.group(1));
            }
        }
        CHECK.tell("tests", got.toString(), due.toString());
    }

    private static void howTestsAreRun(List<String> lines) {
        CHECK.says("README: how its tests are run");
        List<String> commands = code(lines, "sh");
        CHECK.tell("commands", commands.toString(), "[.ci/run]");
        for (String command : commands) {
            CHECK.due(command + " can be run", Files.isExecutable(Path.of(command)), true);
        }
    }
}
