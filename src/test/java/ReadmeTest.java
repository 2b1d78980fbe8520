import java.io.IOException;
import java.lang.reflect.Method;
import java.lang.reflect.Modifier;
import java.nio.file.Files;
import java.nio.file.Path;
import java.util.ArrayList;
import java.util.List;
import java.util.Set;
import java.util.TreeSet;
import java.util.regex.Matcher;
import java.util.regex.Pattern;

/** What README.md says of the class is so: its example call by call, and its table of exceptions. */
public final class ReadmeTest {
    private static final Path README = Path.of("README.md");
    private static final Pattern MADE = Pattern.compile("PeelRibbons log = new PeelRibbons\\((\\d+), (\\d+)\\);.*");
    private static final Pattern CALLED = Pattern.compile("log\\.(\\w+)\\((.*?)\\); +// (throws \\w+|[-\\w]+).*");

    private static int wrong = 0;

    public static void main(String[] args) throws IOException {
        String text = Files.readString(README);
        example(text);
        for (Method method : PeelRibbons.class.getDeclaredMethods()) {
            if (Modifier.isPublic(method.getModifiers())) {
                rowOfTable(text, method);
            }
        }
        System.out.println(wrong == 0 ? "the README is as due" : wrong + " faults in the README");
        if (wrong != 0) {
            System.exit(1);
        }
    }

    private static void example(String text) {
        PeelRibbons log = null;
        Set<String> called = new TreeSet<>();
        for (String line : exampleLines(text)) {
            Matcher made = MADE.matcher(line);
            Matcher call = CALLED.matcher(line);
            if (made.matches()) {
                log = new PeelRibbons(Integer.parseInt(made.group(1)), Integer.parseInt(made.group(2)));
            } else if (log != null && call.matches()) {
                called.add(call.group(1));
                String got = answerOf(log, call.group(1), call.group(2));
                check(got.equals(call.group(3)), line + " - answered " + got);
            } else {
                check(false, "this line is no call: " + line);
            }
        }
        for (int call = 0; call < Calls.COUNT; call++) {
            check(called.contains(Calls.name(call)), "the example has no " + Calls.name(call));
        }
    }

    private static List<String> exampleLines(String text) {
        List<String> lines = new ArrayList<>();
        Matcher block = Pattern.compile("(?s)```java\n(.*?)```").matcher(text);
        while (block.find()) {
            lines.addAll(block.group(1).lines().toList());
        }
        return lines;
    }

    private static String answerOf(PeelRibbons log, String name, String arguments) {
        int[] numbers = new int[4];
        int count = 0;
        for (String argument : arguments.split(", ")) {
            if (!argument.isEmpty()) {
                numbers[count++] = argument.equals("true") ? 1 : argument.equals("false") ? 0 : Integer.parseInt(argument);
            }
        }
        String answer = Calls.answerOf(log, Calls.number(name), numbers);
        return Calls.isAnswer(answer) ? answer : "throws " + answer;
    }

    /** The row must name the call with all its arguments, and its exceptions in their order. */
    private static void rowOfTable(String text, Method method) {
        Matcher row = Pattern.compile("(?m)^\\| `" + method.getName() + "\\(([^)]*)\\)` \\| (.*) \\|$").matcher(text);
        if (!row.find()) {
            check(false, "the table has no row of " + method.getName());
            return;
        }
        int arguments = row.group(1).isEmpty() ? 0 : row.group(1).split(", ").length;
        check(arguments == method.getParameterCount(), "the table has other arguments of " + method.getName());
        List<String> due = new ArrayList<>();
        for (Class<?> thrown : method.getExceptionTypes()) {
            due.add(thrown.getSimpleName());
        }
        List<String> told = new ArrayList<>();
        Matcher name = Pattern.compile("\\w+Exception").matcher(row.group(2));
        while (name.find()) {
            told.add(name.group());
        }
        check(told.equals(due), "the table has " + told + " for " + method.getName());
    }

    private static void check(boolean good, String otherwise) {
        if (!good) {
            wrong++;
            System.out.println(otherwise);
        }
    }
}
