import java.io.IOException;
import java.lang.reflect.Constructor;
import java.lang.reflect.Field;
import java.lang.reflect.Method;
import java.lang.reflect.Modifier;
import java.nio.file.Files;
import java.nio.file.Path;
import java.util.Arrays;
import java.util.Map;
import java.util.Set;
import java.util.TreeMap;
import java.util.TreeSet;
import java.util.regex.Matcher;
import java.util.regex.Pattern;

/** The face of the document, and those rules of LANGUAGE.md that a look at the class can tell. */
public final class FaceTest {
    private static final String SOURCE = "src/main/java/PeelRibbons.java";
    private static final Path DOCUMENT = Path.of("../shared/DOC.md");
    private static final String[] FACE = {
        "boolean cell(int,int,int,boolean) IndexOutOfBoundsException",
        "int room()",
        "int axis(int) IndexOutOfBoundsException",
        "int radius()",
        "int roomOf(int,int,int,int) IndexOutOfBoundsException",
        "int peel(int,int) IllegalArgumentException",
        "int before(int) IllegalStateException IndexOutOfBoundsException",
        "int fault(int,int,int) IllegalArgumentException IllegalStateException",
        "int unrolled(int) IndexOutOfBoundsException IllegalStateException",
        "int leaf(int,int) IllegalArgumentException IllegalStateException",
        "boolean bars(int,int,boolean) IndexOutOfBoundsException",
        "int clip(int) IllegalArgumentException IllegalStateException",
        "int at(int,int) IllegalStateException IndexOutOfBoundsException",
        "int clipped(int) IllegalStateException IndexOutOfBoundsException",
        "int shrink(int,int,int) IndexOutOfBoundsException IllegalArgumentException",
        "boolean row(int,int) IllegalArgumentException",
        "int knife(int) IllegalArgumentException",
    };

    private static final Set<String> NO_CALLS = Set.of("if", "for", "while", "switch");
    private static final int MOST_DEEP = 8;

    private static int wrong = 0;

    public static void main(String[] args) throws IOException {
        methods();
        faceOfTheDocument();
        constructorAndFields();
        classesInside();
        source(withoutComments());
        depth(withoutComments());
        System.out.println(wrong == 0 ? "the face is as due" : wrong + " faults in the face");
        if (wrong != 0) {
            System.exit(1);
        }
    }

    private static void methods() {
        Set<String> due = new TreeSet<>(Arrays.asList(FACE));
        Set<String> names = new TreeSet<>();
        Set<String> seen = new TreeSet<>();
        for (Method method : PeelRibbons.class.getDeclaredMethods()) {
            if (Modifier.isPublic(method.getModifiers())) {
                seen.add(told(method));
                names.add(method.getName());
                check(!Modifier.isStatic(method.getModifiers()), method + " is static");
            }
        }
        check(seen.equals(due), "public methods are " + seen);
        for (Method method : PeelRibbons.class.getDeclaredMethods()) {
            boolean isPrivate = Modifier.isPrivate(method.getModifiers());
            check(isPrivate || Modifier.isPublic(method.getModifiers()), method + " is neither public nor private");
            check(!isPrivate || !names.contains(method.getName()), method + " bears a public name");
        }
    }

    private static String told(Method method) {
        StringBuilder text = new StringBuilder();
        text.append(method.getReturnType().getSimpleName()).append(' ').append(method.getName()).append('(');
        String comma = "";
        for (Class<?> type : method.getParameterTypes()) {
            text.append(comma).append(type.getSimpleName());
            comma = ",";
        }
        text.append(')');
        for (Class<?> type : method.getExceptionTypes()) {
            text.append(' ').append(type.getSimpleName());
        }
        return text.toString();
    }

    /** The rows above are the document's own, but for the names of arguments. */
    private static void faceOfTheDocument() throws IOException {
        if (!Files.isReadable(DOCUMENT)) {
            System.out.println("the document is not there, so its face was not looked up");
            return;
        }
        Set<String> due = new TreeSet<>();
        Matcher method = Pattern.compile("(?m)^ +public (\\w+ \\w+)\\((.*)\\)(?: throws (.*))?;$")
                .matcher(Files.readString(DOCUMENT));
        while (method.find()) {
            String types = method.group(2).replaceAll(" \\w+(, |$)", ",").replaceAll(",$", "");
            String thrown = method.group(3) == null ? "" : " " + method.group(3).replace(",", "");
            due.add(method.group(1) + "(" + types + ")" + thrown);
        }
        check(due.equals(new TreeSet<>(Arrays.asList(FACE))), "the document's methods are " + due);
    }

    private static void constructorAndFields() {
        check(PeelRibbons.NONE == -1, "NONE is " + PeelRibbons.NONE);
        check(Modifier.isFinal(PeelRibbons.class.getModifiers()), "the class is not final");
        Constructor<?>[] constructors = PeelRibbons.class.getDeclaredConstructors();
        check(constructors.length == 1, "there are " + constructors.length + " constructors");
        check(Modifier.isPublic(constructors[0].getModifiers()), "the constructor is not public");
        check(Arrays.equals(constructors[0].getParameterTypes(), new Class<?>[] {int.class, int.class}),
                "the constructor takes something else");
        for (Field field : PeelRibbons.class.getDeclaredFields()) {
            boolean isNone = field.getName().equals("NONE");
            check(isNone == Modifier.isPublic(field.getModifiers()), field + " is public or not");
            check(isNone || Modifier.isPrivate(field.getModifiers()), field + " is not private");
        }
    }

    private static void classesInside() {
        Class<?>[] inside = PeelRibbons.class.getDeclaredClasses();
        check(inside.length < 12, "there are " + inside.length + " classes inside");
        for (Class<?> each : inside) {
            check(Modifier.isStatic(each.getModifiers()), each + " is not static");
            check(Modifier.isPrivate(each.getModifiers()), each + " is not private");
            int fields = 0;
            for (Field field : each.getDeclaredFields()) {
                boolean isStatic = Modifier.isStatic(field.getModifiers());
                check(!isStatic || Modifier.isFinal(field.getModifiers()), field + " can change");
                fields += isStatic ? 0 : 1;
            }
            check(fields <= 20, each + " has " + fields + " fields");
            for (Method method : each.getDeclaredMethods()) {
                check(method.getParameterCount() <= 7, method + " takes too much");
            }
        }
    }

    private static String withoutComments() throws IOException {
        return Files.readString(Path.of(SOURCE)).replaceAll("(?s)/\\*.*?\\*/", "").replaceAll("//.*", "");
    }

    private static void source(String text) {
        String[] outside = {"import", "package", "->", "::", "catch", "finally", "synchronized", "assert", "while",
            "System", "double", "float", "Exact("};
        for (String word : outside) {
            boolean isWord = !word.endsWith("(") && Character.isLetter(word.charAt(0));
            String pattern = isWord ? "\\b" + word + "\\b" : Pattern.quote(word);
            check(!Pattern.compile(pattern).matcher(text).find(), "the source has " + word);
        }
        Matcher thrown = Pattern.compile("\\bthrow\\b(?! new (IndexOutOfBounds|IllegalArgument|IllegalState)Exception\\(\"[^\"]*\"\\);)")
                .matcher(text);
        check(!thrown.find(), "something else is thrown");
        check(text.chars().allMatch(c -> c < 128), "the source holds other characters");
    }

    /** Methods are told apart by their names alone, so this may find more depth than there is. */
    private static void depth(String text) {
        Map<String, Set<String>> calls = new TreeMap<>();
        Matcher method = Pattern.compile("(?m)^ +(?:\\w+(?:\\[\\])? )*(\\w+)\\([^()]*\\)[^;{}()=]*\\{").matcher(text);
        while (method.find()) {
            if (!NO_CALLS.contains(method.group(1))) {
                calls.computeIfAbsent(method.group(1), name -> new TreeSet<>())
                        .addAll(namesCalled(bodyFrom(text, method.end())));
            }
        }
        for (String line : FACE) {
            String name = line.replaceAll("^\\w+ |\\(.*", "");
            check(calls.containsKey(name), name + " was not found");
            int deep = depthOf(name, calls, 1);
            check(deep <= MOST_DEEP, name + " goes " + deep + " deep");
        }
    }

    private static String bodyFrom(String text, int begin) {
        int open = 1;
        int end = begin;
        for (; end < text.length() && open > 0; end++) {
            open += text.charAt(end) == '{' ? 1 : text.charAt(end) == '}' ? -1 : 0;
        }
        return text.substring(begin, end);
    }

    private static Set<String> namesCalled(String body) {
        Set<String> names = new TreeSet<>();
        Matcher call = Pattern.compile("(\\w+)\\(").matcher(body);
        while (call.find()) {
            names.add(call.group(1));
        }
        names.removeAll(NO_CALLS);
        return names;
    }

    private static int depthOf(String name, Map<String, Set<String>> calls, int depth) {
        int deepest = depth;
        if (depth <= 4 * MOST_DEEP) {
            for (String called : calls.getOrDefault(name, Set.of())) {
                deepest = Math.max(deepest, depthOf(called, calls, depth + 1));
            }
        }
        return deepest;
    }

    private static void check(boolean good, String otherwise) {
        if (!good) {
            wrong++;
            System.out.println(otherwise);
        }
    }
}
