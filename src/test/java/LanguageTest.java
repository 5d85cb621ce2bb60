import java.io.IOException;
import java.lang.reflect.Constructor;
import java.lang.reflect.Field;
import java.lang.reflect.Method;
import java.lang.reflect.Modifier;
import java.nio.file.Files;
import java.nio.file.Paths;
import java.util.ArrayList;
import java.util.Arrays;
import java.util.List;
import java.util.TreeSet;
import java.util.regex.Matcher;
import java.util.regex.Pattern;

/** What can be seen of the rules of LANGUAGE.md in the source's text and in the compiled classes. */
public final class LanguageTest {
    private static final Check CHECK = new Check();

    public static void main(String[] args) throws IOException {
        String source = Files.readString(Paths.get("src/main/java/RegisterTranslator.java"));
        String code = source.replaceAll("(?s)/\\*.*?\\*/", " ").replaceAll("//.*", "");
        wordsThatAreOut(code);
        libraryCalls(code);
        lengthsOfMethods(source.split("\n"));
        List<Class<?>> classes = new ArrayList<>();
        classes.add(RegisterTranslator.class);
        classes.addAll(Arrays.asList(RegisterTranslator.class.getDeclaredClasses()));
        CHECK.due("rule 11: at most twelve classes: " + classes.size(), classes.size() <= 12, true);
        TreeSet<String> face = new TreeSet<>();
        for (Method method : RegisterTranslator.class.getDeclaredMethods()) {
            if (Modifier.isPublic(method.getModifiers())) {
                face.add(method.getName());
            }
        }
        for (Class<?> one : classes) {
            fields(one);
            parameters(one);
            if (one != RegisterTranslator.class) {
                names(one, face);
            }
        }
        CHECK.end();
    }

    /** Rules 2, 3, 6, 8 and 12. */
    private static void wordsThatAreOut(String code) {
        for (String word : new String[] {"->", "::", "\\bpackage\\b", "\\bthrow\\b", "\\btry\\b",
            "\\bfinally\\b", "\\bsynchronized\\b", "\\bassert\\b", "\\bvolatile\\b", "\\bnative\\b",
            "\\bdouble\\b", "\\bfloat\\b", "\\bvar\\b", "\\bObject\\b", "\\bThread\\b", "\"", "@",
            "static \\{", "while \\(true\\)", "for \\(;;\\)"}) {
            CHECK.due("no " + word, Pattern.compile(word).matcher(code).find(), false);
        }
    }

    /** Rules 4 and 13: what is imported, and what is called of it. */
    private static void libraryCalls(String code) {
        Matcher imported = Pattern.compile("import ([\\w.*]+);").matcher(code);
        while (imported.find()) {
            CHECK.due(imported.group(), imported.group(1).equals("java.util.Arrays"), true);
        }
        List<String> allowed = Arrays.asList("System.arraycopy", "Arrays.fill");
        Matcher called = Pattern.compile("\\b(System|Arrays|Math|Integer|Long)\\.\\w+").matcher(code);
        while (called.find()) {
            CHECK.due(called.group(), allowed.contains(called.group()), true);
        }
    }

    /** Rule 11: some sixty lines, from a heading to the brace that stands below its first letter. */
    private static void lengthsOfMethods(String[] lines) {
        for (int k = 0; k < lines.length; k++) {
            String line = lines[k];
            if (!line.endsWith(") {") || line.matches("\\s*(if|for|while|switch|\\}).*")) {
                continue;
            }
            String end = line.substring(0, line.indexOf(line.trim())) + "}";
            int last = k;
            while (!lines[last].equals(end)) {
                last++;
            }
            CHECK.due("lines of" + line, last - k < 60, true);
        }
    }

    /** Rules 3, 5 and 11. */
    private static void fields(Class<?> one) {
        int count = 0;
        for (Field field : one.getDeclaredFields()) {
            if (Modifier.isStatic(field.getModifiers())) {
                CHECK.due(field + " is final", Modifier.isFinal(field.getModifiers()), true);
                CHECK.due(field + ": its type", field.getType() == int.class
                    || field.getType() == int[].class, true);
            } else {
                count++;
            }
        }
        CHECK.due("fields of " + one + ": " + count, count <= 20, true);
    }

    /** Rule 11. */
    private static void parameters(Class<?> one) {
        for (Method method : one.getDeclaredMethods()) {
            CHECK.due(method.toString(), method.getParameterCount() <= 7, true);
        }
        for (Constructor<?> constructor : one.getDeclaredConstructors()) {
            CHECK.due(constructor.toString(), constructor.getParameterCount() <= 7, true);
        }
    }

    /** Rule 1: no method that is not public bears the name of one that is. */
    private static void names(Class<?> one, TreeSet<String> face) {
        for (Method method : one.getDeclaredMethods()) {
            CHECK.due("the name of " + method, face.contains(method.getName()), false);
        }
    }
}
