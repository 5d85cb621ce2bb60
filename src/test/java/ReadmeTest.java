import java.io.File;
import java.io.IOException;
import java.lang.reflect.Method;
import java.lang.reflect.Modifier;
import java.nio.file.Files;
import java.nio.file.Paths;
import java.util.ArrayList;
import java.util.List;

/** README.md: its example's answers hold, and it names every call of the face and every test. */
public final class ReadmeTest {
    private static final Check CHECK = new Check();
    /** The lines of the example that tell an answer, in their order. */
    private static final List<String> LINES = new ArrayList<>();
    private static int next = 0;
    private static final RegisterTranslator X = new RegisterTranslator();

    public static void main(String[] args) throws IOException {
        String readme = Files.readString(Paths.get("README.md"));
        int begin = readme.indexOf("```java\n");
        String example = readme.substring(begin, readme.indexOf("\n```\n", begin));
        for (String line : example.split("\n")) {
            if (line.contains("; ") && line.contains("// ")) {
                LINES.add(line);
            }
        }
        defining();
        running();
        arraysAndFaults();
        CHECK.due("lines of the example that were looked at", next, LINES.size());
        namesOfCalls(readme);
        namesOfTests(readme);
        CHECK.end();
    }

    private static void defining() {
        line("x.type(0x0100010105L, 5);", X.type(0x0100010105L, 5));
        line("x.type(0x14L, 1);", X.type(0x14L, 1));
        line("int method = x.define(2, 2);", X.define(2, 2));
        line("x.methods();", X.methods());
        line("x.depth(method, 4);", X.depth(0, 4));
        line("x.state(method, 4, 8);", X.state(0, 4, 8));
        line("x.first(method, 4);", X.first(0, 4));
        line("x.units(method);", X.units(0));
        line("x.unit(method, 2);", X.unit(0, 2));
    }

    private static void running() {
        X.arguments(6, 7, 0);
        line("x.run(false, method, 100);", X.run(false, 0, 100));
        line("x.value();", X.value());
        line("x.at();", X.at());
        line("x.run(true, method, 100);", X.run(true, 0, 100));
        line("x.steps();", X.steps());
        line("x.at();", X.at());
        line("x.running();", X.running());
        line("x.run(true, method, 1);", X.run(true, 0, 1));
    }

    private static void arraysAndFaults() {
        line("x.type(0x00020F1214L, 5);", X.type(0x00020F1214L, 5));
        line("x.define(0, 0);", X.define(0, 0));
        line("x.run(false, 1, 100);", X.run(false, 1, 100));
        line("x.cell(0, -1);", X.cell(0, -1));
        line("x.cell(0, 1);", X.cell(0, 1));
        line("x.type(0x0314L, 2);", X.type(0x0314L, 2));
        line("x.define(0, 0);", X.define(0, 0));
        line("x.fault();", X.fault());
        X.reset();
        line("x.methods();", X.methods());
    }

    private static void line(String call, boolean answer) {
        line(call, answer ? 1 : 0);
    }

    /** The next line of the example makes this call and tells this answer first. */
    private static void line(String call, long answer) {
        String line = next < LINES.size() ? LINES.get(next) : "";
        next++;
        CHECK.due("the example has " + call + " where it has " + line, line.startsWith(call), true);
        String told = line.replaceFirst(".*// ", "").split("[: ]")[0];
        CHECK.due("the example's " + line, answer, number(told));
    }

    private static long number(String told) {
        if (told.equals("true") || told.equals("false")) {
            return told.equals("true") ? 1 : 0;
        }
        return told.isEmpty() ? Long.MIN_VALUE : Long.decode(told);
    }

    private static void namesOfCalls(String readme) {
        for (Method method : RegisterTranslator.class.getDeclaredMethods()) {
            if (Modifier.isPublic(method.getModifiers())) {
                String name = method.getName();
                CHECK.due("the example calls " + name, readme.contains("x." + name + "("), true);
                CHECK.due("it names " + name, readme.contains("`" + name + "`"), true);
            }
        }
    }

    private static void namesOfTests(String readme) {
        CHECK.due(".ci/run", readme.contains(".ci/run"), true);
        for (String name : new File("src/test/java").list()) {
            if (name.endsWith("Test.java")) {
                String row = "| `" + name.replace(".java", "") + "` |";
                CHECK.due("a row for " + name, readme.contains(row), true);
            }
        }
    }
}
