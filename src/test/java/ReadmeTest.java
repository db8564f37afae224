import java.io.ByteArrayOutputStream;
import java.io.File;
import java.io.IOException;
import java.io.PrintStream;
import java.lang.reflect.Method;
import java.lang.reflect.Modifier;
import java.nio.charset.StandardCharsets;
import java.nio.file.Files;
import java.nio.file.Path;
import java.util.ArrayList;
import java.util.List;
import java.util.TreeSet;

/** README.md: the calls that it shows are those of Example, with the answers that Example gets. */
public final class ReadmeTest {
    private static final Checks CHECKS = new Checks();
    private static final Path TESTS = Path.of("src", "test", "java");

    public static void main(String[] args) throws IOException {
        List<String> readme = Files.readAllLines(Path.of("README.md"));
        List<String> shown = shownIn(readme);
        program(shown);
        answers(shown);
        wholeFace(shown);
        texts();
        calls(readme);
        severalExceptions();
        tests(readme);
        CHECKS.end();
    }

    /** The lines between the one mark of a Java program and the mark of its end. */
    private static List<String> shownIn(List<String> readme) {
        int start = readme.indexOf("```java");
        CHECKS.says("README.md says how to use the class");
        CHECKS.due("one program", start >= 0 && start == readme.lastIndexOf("```java"), true);
        List<String> behind = readme.subList(start + 1, readme.size());
        return behind.subList(0, Math.max(behind.indexOf("```"), 0));
    }

    private static void program(List<String> shown) throws IOException {
        CHECKS.says("The calls that README.md shows");
        List<String> example = Files.readAllLines(TESTS.resolve("Example.java"));
        CHECKS.due("the lines of Example.java", String.join("\n", shown), String.join("\n", example));
    }

    private static void answers(List<String> shown) {
        CHECKS.says("the answers that it tells for them");
        List<String> told = new ArrayList<>();
        List<String> calls = new ArrayList<>();
        for (String line : shown) {
            int comment = line.indexOf(" // ");
            if (comment >= 0) {
                told.add(line.substring(comment + 4).split(": ")[0]);
                calls.add(line.substring(0, comment).strip());
            }
        }
        List<String> printed = printedByExample();
        CHECKS.due("how many", printed.size(), told.size());
        for (int i = 0; i < Math.min(printed.size(), told.size()); i++) {
            CHECKS.due(calls.get(i), told.get(i), printed.get(i));
        }
    }

    private static List<String> printedByExample() {
        PrintStream console = System.out;
        ByteArrayOutputStream printed = new ByteArrayOutputStream();
        System.setOut(new PrintStream(printed, true, StandardCharsets.UTF_8));
        Example.main(new String[0]);
        System.setOut(console);
        return printed.toString(StandardCharsets.UTF_8).lines().toList();
    }

    private static void wholeFace(List<String> shown) {
        CHECKS.says("README.md says how to use the class");
        String program = String.join("\n", shown);
        for (Method method : LayerStacks.class.getDeclaredMethods()) {
            if (Modifier.isPublic(method.getModifiers())) {
                CHECKS.due(method.getName(), program.contains("stacks." + method.getName() + "("), true);
            }
        }
    }

    /** What stands below "Texts". */
    private static void texts() {
        CHECKS.says("A thickness is told in thousands of nanometres, a spread in tens of thousandths");
        LayerStacks x = Checks.stackOf(Texts.between("core C 17.5 12.5"));
        CHECKS.due("17.5 less an eighth", x.thick(1, 0, 0) * 8, 17_500 * 7 * x.thick(1, 0, 1));
        CHECKS.dueLayers(Texts.between("core C 17.5 50"), 3);
        CHECKS.dueFault("copper A 17.5 @50.1\n");
        CHECKS.says("likewise core (1), prepreg (2), mask (3); spare: a layer of kind 4");
        String[] words = {"copper", "core", "prepreg", "mask", "spare"};
        LayerStacks all = Checks.stackOf(Texts.ofKinds("mckpsc"));
        for (int layer = 0; layer < 6; layer++) {
            String line = Checks.written(all).split("\n")[layer];
            CHECKS.due("layer " + layer, line.startsWith(words[all.kind(layer)] + " "), true);
        }
        CHECKS.says("If the text only was not at its end yet, it can go on with unit");
        LayerStacks y = new LayerStacks();
        String text = Texts.LEAST + "press A B\nvia A B\n";
        CHECKS.due("not at its end", Checks.read(y, text.substring(0, 52)), -53);
        CHECKS.due("at its end", Checks.read(y, text.substring(52)), 3);
        CHECKS.says("Each line ends with a line feed, also the last one");
        CHECKS.dueFault(Texts.LEAST.strip());
    }

    /** The rows below "Calls": one for each, with as many arguments, and what it throws in the face's order. */
    private static void calls(List<String> readme) {
        CHECKS.says("What it throws");
        for (Method method : LayerStacks.class.getDeclaredMethods()) {
            if (Modifier.isPublic(method.getModifiers())) {
                call(method, rowOf(method.getName(), readme));
            }
        }
    }

    private static void call(Method method, String row) {
        CHECKS.due("a row of " + method.getName(), !row.isEmpty(), true);
        if (!row.isEmpty()) {
            String arguments = row.substring(row.indexOf('(') + 1, row.indexOf(')'));
            int count = arguments.isEmpty() ? 0 : arguments.split(", ").length;
            CHECKS.due("arguments of " + method.getName(), count, method.getParameterCount());
            CHECKS.due("throws of " + method.getName(), throwsOf(row), throwsOf(method));
        }
    }

    private static String rowOf(String name, List<String> readme) {
        for (String line : readme) {
            if (line.startsWith("| `" + name + "(")) {
                return line;
            }
        }
        return "";
    }

    private static String throwsOf(String row) {
        String cell = row.split(" \\|", -1)[2].strip();
        StringBuilder names = new StringBuilder();
        for (String told : cell.isEmpty() ? new String[0] : cell.split("; ")) {
            names.append(told, 0, told.indexOf(':')).append(' ');
        }
        return names.toString();
    }

    private static String throwsOf(Method method) {
        StringBuilder names = new StringBuilder();
        for (Class<?> thrown : method.getExceptionTypes()) {
            names.append(switch (thrown.getSimpleName()) {
                case "IndexOutOfBoundsException" -> "index ";
                case "IllegalStateException" -> "state ";
                default -> "argument ";
            });
        }
        return names.toString();
    }

    private static void severalExceptions() {
        CHECKS.says("where more than one fits, the first one told is thrown");
        LayerStacks x = Checks.stackOf(Texts.FEW);
        CHECKS.dueIndex("thick", () -> x.thick(3, 2, 0));
        CHECKS.dueIndex("copper", () -> x.copper(3, 2, 1) ? 1 : 0);
        CHECKS.dueIndex("row", () -> x.row(0, 0, 2, 1) ? 1 : 0);
        CHECKS.dueIndex("write", () -> new LayerStacks().write(-1));
    }

    private static void tests(List<String> readme) {
        CHECKS.says("README.md says how to run its tests");
        TreeSet<String> told = new TreeSet<>();
        for (String line : readme) {
            if (line.startsWith("| `") && line.contains("Test`")) {
                told.add(line.substring(3, line.indexOf('`', 3)) + ".java");
            }
        }
        TreeSet<String> there = new TreeSet<>();
        for (String name : TESTS.toFile().list()) {
            if (name.endsWith("Test.java")) {
                there.add(name);
            }
        }
        CHECKS.due("each test", told.toString(), there.toString());
        CHECKS.due("the script", String.join(" ", readme).contains("`.ci/run`"), true);
        CHECKS.due("is there", new File(".ci/run").canExecute(), true);
    }
}
