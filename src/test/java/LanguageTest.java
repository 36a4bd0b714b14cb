import java.io.IOException;
import java.lang.reflect.Constructor;
import java.lang.reflect.Executable;
import java.lang.reflect.Field;
import java.lang.reflect.Method;
import java.lang.reflect.Modifier;
import java.nio.file.Files;
import java.nio.file.Path;
import java.util.ArrayList;
import java.util.List;
import java.util.Set;
import java.util.regex.Matcher;
import java.util.regex.Pattern;

/** Those rules of ../shared/LANGUAGE.md that can be seen in the compiled classes or in the words of the source. */
public final class LanguageTest {
    private static final int MOST_CLASSES = 12;
    private static final int MOST_FIELDS = 20;
    private static final int MOST_PARAMETERS = 7;
    private static final int MOST_LINES = 60;

    private static final Set<String> IMPORTS = Set.of("java.util.ArrayList", "java.util.List", "java.util.Arrays",
        "java.util.Iterator", "java.util.NoSuchElementException");
    private static final Set<String> THROWN = Set.of("IllegalStateException", "IllegalArgumentException",
        "IndexOutOfBoundsException", "ArithmeticException", "UnsupportedOperationException", "NoSuchElementException",
        "RuntimeException");
    private static final Set<Class<?>> CONSTANTS = Set.of(int.class, long.class, boolean.class, char.class, String.class,
        int[].class, long[].class, char[].class, byte[].class);

    public static void main(String[] args) throws IOException {
        Due due = new Due();
        List<Class<?>> classes = new ArrayList<>();
        collect(RiverBridges.class, classes);
        due.is("rule 11: some twelve classes", classes.size() <= MOST_CLASSES, true);
        for (Class<?> c : classes) {
            nested(due, c);
            fields(due, c);
            methods(due, c);
        }
        String source = Files.readString(Path.of("src", "main", "java", "RiverBridges.java"));
        methodLengths(due, source);
        String code = withoutTextsAndComments(source);
        words(due, code);
        imports(due, code);
        thrown(due, code);
        due.end();
    }

    private static void collect(Class<?> c, List<Class<?>> classes) {
        classes.add(c);
        for (Class<?> inside : c.getDeclaredClasses()) {
            collect(inside, classes);
        }
    }

    private static void nested(Due due, Class<?> c) {
        if (c == RiverBridges.class) {
            due.is("rule 1: no package", c.getPackageName().isEmpty(), true);
            return;
        }
        due.is("rule 1: " + c.getName() + " is static", Modifier.isStatic(c.getModifiers()), true);
        due.is("rule 1: " + c.getName() + " is seen outside", c.getModifiers() & (Modifier.PUBLIC | Modifier.PROTECTED), 0);
    }

    private static void fields(Due due, Class<?> c) {
        int ofObjects = 0;
        for (Field f : c.getDeclaredFields()) {
            String name = c.getName() + "." + f.getName();
            if (Modifier.isStatic(f.getModifiers())) {
                due.is("rule 5: " + name + " is final", Modifier.isFinal(f.getModifiers()), true);
                due.is("rule 5: " + name + " is a constant", CONSTANTS.contains(f.getType()), true);
            } else {
                ofObjects++;
            }
        }
        due.is("rule 11: fields of " + c.getName(), ofObjects <= MOST_FIELDS, true);
    }

    private static void methods(Due due, Class<?> c) {
        List<Executable> all = new ArrayList<>();
        all.addAll(List.of(c.getDeclaredMethods()));
        all.addAll(List.of(c.getDeclaredConstructors()));
        for (Executable e : all) {
            due.is("rule 11: parameters of " + e, e.getParameterCount() <= MOST_PARAMETERS, true);
            if (e instanceof Constructor<?>) {
                due.is("rule 6: " + e + " throws", e.getExceptionTypes().length, 0);
            }
        }
        for (Method m : c.getDeclaredMethods()) {
            boolean ofAnObject = Set.of("equals", "hashCode", "toString").contains(m.getName());
            due.is("rule 6: " + c.getName() + " has " + m.getName(), ofAnObject, false);
            if (Modifier.isPrivate(m.getModifiers())) {
                due.is("rule 1: private " + m + " bears a public name", isOfTheFace(m.getName()), false);
            }
        }
    }

    private static boolean isOfTheFace(String name) {
        for (Method m : RiverBridges.class.getMethods()) {
            if (m.getDeclaringClass() == RiverBridges.class && m.getName().equals(name)) {
                return true;
            }
        }
        return false;
    }

    /** A method begins with a head that ends in "{" and ends with the first "}" that stands as far in. */
    private static void methodLengths(Due due, String source) {
        String[] lines = source.split("\n");
        Pattern head = Pattern.compile("( {4}| {8})[^ *].*\\) (throws \\w+ )?\\{");
        for (int i = 0; i < lines.length; i++) {
            Matcher m = head.matcher(lines[i]);
            if (m.matches()) {
                int end = i;
                while (end < lines.length && !lines[end].equals(m.group(1) + "}")) {
                    end++;
                }
                due.is("rule 11: lines of" + lines[i], end - i < MOST_LINES, true);
            }
        }
    }

    private static String withoutTextsAndComments(String source) {
        return source.replaceAll("(?s)/\\*.*?\\*/", " ").replaceAll("//[^\n]*", " ").replaceAll("\"[^\"\n]*\"", "\"\"");
    }

    private static void words(Due due, String code) {
        String[] none = {"\\bfinally\\b", "\\bsynchronized\\b", "\\bassert\\b", "->", "::", "Exact\\b", "\\bThread\\b", "\\bRandom\\b",
            "\\bSystem\\.(?!arraycopy\\b)", "\\bMath\\.random\\b", "\\bhashCode\\b", "\\bgetClass\\b", "\\bstatic \\{", "\\bpackage\\b"};
        for (String word : none) {
            due.is("the source has " + word, Pattern.compile(word).matcher(code).find(), false);
        }
    }

    private static void imports(Due due, String code) {
        Matcher m = Pattern.compile("\\bimport ([^;]*);").matcher(code);
        while (m.find()) {
            due.is("rule 4: import of " + m.group(1), IMPORTS.contains(m.group(1)), true);
        }
    }

    private static void thrown(Due due, String code) {
        Matcher m = Pattern.compile("\\bthrow\\b([^;]*);").matcher(code);
        Pattern form = Pattern.compile(" new (\\w+)\\((\"\")?\\)");
        while (m.find()) {
            Matcher made = form.matcher(m.group(1));
            due.is("rule 6: throw" + m.group(1), made.matches() && THROWN.contains(made.group(1)), true);
        }
    }
}
