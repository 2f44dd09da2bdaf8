import java.io.IOException;
import java.lang.reflect.Array;
import java.lang.reflect.Field;
import java.lang.reflect.Method;
import java.lang.reflect.Modifier;
import java.nio.file.Files;
import java.nio.file.Path;
import java.util.ArrayList;
import java.util.Collections;
import java.util.HashSet;
import java.util.IdentityHashMap;
import java.util.List;
import java.util.Set;
import java.util.regex.Matcher;
import java.util.regex.Pattern;

/** The rules of LANGUAGE.md that a test can look up in the class or in its text, and the room it takes. */
public final class LanguageTest {
    private static final Path TEXT = Path.of("src/main/java/TriangleSets.java");
    private static final Check check = new Check();

    public static void main(String[] args) throws IOException, IllegalAccessException {
        String code = withoutComments(Files.readString(TEXT));
        namesOfMethods();
        classesInside();
        wordsThatAreLeftOut(code);
        library(code);
        staticFields();
        sizes();
        lengthsOfMethods(code);
        room();
        check.end();
    }

    private static String withoutComments(String text) {
        return text.replaceAll("(?s)/\\*.*?\\*/", "").replaceAll("//[^\n]*", "").replaceAll("\"[^\"\n]*\"", "\"\"");
    }

    private static List<Class<?>> classes() {
        List<Class<?>> all = new ArrayList<>(List.of(TriangleSets.class.getDeclaredClasses()));
        all.add(TriangleSets.class);
        return all;
    }

    private static void namesOfMethods() {
        check.sentence("Rule 1, no private method bears the name of a public one");
        Set<String> face = new HashSet<>();
        for (Method method : TriangleSets.class.getMethods()) {
            face.add(method.getName());
        }
        for (Class<?> each : classes()) {
            for (Method method : each.getDeclaredMethods()) {
                boolean isFace = each == TriangleSets.class && Modifier.isPublic(method.getModifiers());
                check.due(method.toString(), !isFace && face.contains(method.getName()), false);
            }
        }
    }

    private static void classesInside() {
        check.sentence("Rules 1 and 2, classes inside are private or package-visible and static");
        for (Class<?> each : TriangleSets.class.getDeclaredClasses()) {
            int modifiers = each.getModifiers();
            check.due(each + " is static", Modifier.isStatic(modifiers), true);
            check.due(each + " is seen", Modifier.isPublic(modifiers) || Modifier.isProtected(modifiers), false);
        }
    }

    private static void wordsThatAreLeftOut(String code) {
        check.sentence("Rules 2, 4, 6 and 13, what the text must not have");
        String[] words = {"package", "->", "::", "Exact", "finally", "synchronized", "assert", "try", "catch", "equals",
            "hashCode", "toString", "Random", "System.out", "nanoTime", "currentTimeMillis", "Thread", "double", "float"};
        for (String word : words) {
            check.due(word, code.contains(word), false);
        }
        check.due("throw", count(code, "\\bthrow\\b"), 1);
        check.due("throw of the document", count(code, "throw new ArithmeticException\\(\"\"\\);"), 1);
    }

    private static void library(String code) {
        check.sentence("Rule 4, only what stands there of the library");
        check.due("imports", count(code, "\\bimport\\b"), 1);
        check.due("import", count(code, "import java\\.util\\.Arrays;"), 1);
        Matcher used = Pattern.compile("\\b(System|Arrays|Math|Long|Integer|String)\\.(\\w+)").matcher(code);
        Set<String> allowed = Set.of("System.arraycopy", "Arrays.fill", "Math.min", "Math.max", "Math.abs");
        while (used.find()) {
            check.due(used.group(), allowed.contains(used.group()), true);
        }
    }

    private static int count(String code, String pattern) {
        return (int) Pattern.compile(pattern).matcher(code).results().count();
    }

    private static void staticFields() {
        check.sentence("Rule 5, static fields are final constants");
        for (Class<?> each : classes()) {
            for (Field field : each.getDeclaredFields()) {
                if (Modifier.isStatic(field.getModifiers())) {
                    check.due(field.toString(), Modifier.isFinal(field.getModifiers()), true);
                    check.due(field.toString(), field.getType() == int.class || field.getType() == long.class, true);
                }
            }
        }
    }

    private static void sizes() {
        check.sentence("Rule 11, seven parameters, some twelve classes, some twenty fields");
        check.due("classes", classes().size() <= 12, true);
        for (Class<?> each : classes()) {
            int fields = 0;
            for (Field field : each.getDeclaredFields()) {
                fields += Modifier.isStatic(field.getModifiers()) ? 0 : 1;
            }
            check.due("fields of " + each, fields <= 20, true);
            for (Method method : each.getDeclaredMethods()) {
                check.due("parameters of " + method, method.getParameterCount() <= 7, true);
            }
        }
    }

    private static void lengthsOfMethods(String code) {
        check.sentence("Rule 11, methods stay short (some sixty lines)");
        int from = -1;
        String closing = "";
        String[] lines = code.split("\n");
        for (int k = 0; k < lines.length; k++) {
            String line = lines[k];
            if (from < 0 && line.endsWith(") {") && line.matches("( {4}| {8})(?!if|for|while|switch)[\\w<].*")) {
                from = k;
                closing = line.substring(0, line.length() - line.stripLeading().length()) + "}";
            } else if (from >= 0 && line.equals(closing)) {
                check.due("lines of " + lines[from].strip(), k - from < 60, true);
                from = -1;
            }
        }
    }

    /** All calls of a run share 600,000 objects and 7.3 million elements; a run may make many objects. */
    private static void room() throws IllegalAccessException {
        check.sentence("Rule 12, what is kept is small, and no call adds to it");
        TriangleSets x = Build.with("ffdddddd");
        long before = elements(x);
        for (int k = 0; k < 16; k++) {
            Build.hypothesis(x, 1, 0x100 << 4 * (k % 6), -1, k % 7, 1, 0x010000 << 4 * (k % 3));
        }
        for (int k = 0; k < 40; k++) {
            x.decompose();
            x.prove(k % 16);
            x.quotient(0);
            x.use(k % 16, k % 3 > 0);
        }
        check.due("objects and elements", elements(x), before);
        check.due("a hundred objects in a run", 100 * before < 7_300_000, true);
    }

    /** Objects, arrays, their fields and elements: all that the object holds. */
    private static long elements(Object root) throws IllegalAccessException {
        Set<Object> seen = Collections.newSetFromMap(new IdentityHashMap<>());
        List<Object> open = new ArrayList<>(List.of(root));
        seen.add(root);
        long sum = 0;
        while (!open.isEmpty()) {
            Object each = open.remove(open.size() - 1);
            List<Object> parts = each.getClass().isArray() ? partsOfArray(each) : partsOfObject(each);
            sum += 1 + (each.getClass().isArray() ? Array.getLength(each) : parts.size());
            for (Object part : parts) {
                if (part != null && !(part instanceof Number || part instanceof Boolean) && seen.add(part)) {
                    open.add(part);
                }
            }
        }
        return sum;
    }

    private static List<Object> partsOfArray(Object array) {
        List<Object> parts = new ArrayList<>();
        for (int k = 0; k < Array.getLength(array) && !array.getClass().getComponentType().isPrimitive(); k++) {
            parts.add(Array.get(array, k));
        }
        return parts;
    }

    private static List<Object> partsOfObject(Object object) throws IllegalAccessException {
        List<Object> parts = new ArrayList<>();
        for (Field field : object.getClass().getDeclaredFields()) {
            if (!Modifier.isStatic(field.getModifiers())) {
                field.setAccessible(true);
                parts.add(field.get(object));
            }
        }
        return parts;
    }
}
