import java.io.IOException;
import java.lang.reflect.Constructor;
import java.lang.reflect.Field;
import java.lang.reflect.Method;
import java.lang.reflect.Modifier;
import java.nio.file.Files;
import java.nio.file.Path;
import java.util.ArrayList;
import java.util.List;
import java.util.Set;
import java.util.TreeSet;

/** The face of the document, and those rules of LANGUAGE.md that can be seen from outside or from single words. */
public final class FaceTest {
    private static final String[] STRANGE = {"::", "catch", "finally", "assert", "synchronized", "instanceof",
            "double[", "System.out", "Exact(", "hashCode", "toString", "equals(", "List", "String"};

    public static void main(String[] args) throws IOException {
        face();
        source();
        Checks.end("FaceTest");
    }

    private static void face() throws IOException {
        Class<?> of = DialectDictionary.class;
        Set<String> declared = new TreeSet<>();
        Set<String> publicNames = new TreeSet<>();
        for (Method method : of.getDeclaredMethods()) {
            if (!method.isSynthetic() && Modifier.isPublic(method.getModifiers())) {
                declared.add(told(method));
                publicNames.add(method.getName());
            }
        }
        Checks.due(faceOfDocument(), declared, "the public methods, with types and exceptions");
        Checks.due(33, declared.size(), "the number of public methods");
        for (Method method : of.getDeclaredMethods()) {
            boolean isOwn = Modifier.isPrivate(method.getModifiers());
            Checks.due(true, method.isSynthetic() || isOwn || publicNames.contains(method.getName()),
                    "no method beside the face that others see: " + method.getName());
            Checks.due(false, isOwn && publicNames.contains(method.getName()),
                    "no private method with a public name: " + method.getName());
        }
        for (Field field : of.getDeclaredFields()) {
            Checks.due(true, Modifier.isPrivate(field.getModifiers()), "a private field: " + field.getName());
        }
        Constructor<?>[] constructors = of.getDeclaredConstructors();
        Checks.due(1, constructors.length, "one constructor");
        Checks.due("public DialectDictionary()", constructors[0].toString(), "that of the document");
        Checks.due(true, Modifier.isFinal(of.getModifiers()), "a final class");
        Checks.due(true, of.getDeclaredClasses().length <= 12, "some twelve classes");
    }

    /** The lines of methods under "The public face" of the document, without the names of the arguments. */
    private static Set<String> faceOfDocument() throws IOException {
        Set<String> lines = new TreeSet<>();
        for (String line : Files.readAllLines(Path.of("../shared/DOC.md"))) {
            if (line.startsWith("    public ") && !line.contains("public DialectDictionary(")) {
                lines.add(line.strip().replaceAll("(char|int|boolean) \\w+(?=[,)])", "$1"));
            }
        }
        return lines;
    }

    private static String told(Method method) {
        List<String> types = new ArrayList<>();
        for (Class<?> type : method.getParameterTypes()) {
            types.add(type.getSimpleName());
        }
        List<String> exceptions = new ArrayList<>();
        for (Class<?> exception : method.getExceptionTypes()) {
            exceptions.add(exception.getSimpleName());
        }
        return Modifier.toString(method.getModifiers()) + " " + method.getReturnType().getSimpleName() + " "
                + method.getName() + "(" + String.join(", ", types) + ")"
                + (exceptions.isEmpty() ? "" : " throws " + String.join(", ", exceptions)) + ";";
    }

    private static void source() throws IOException {
        for (String line : Files.readAllLines(Path.of("src/main/java/DialectDictionary.java"))) {
            boolean isComment = line.strip().startsWith("*") || line.strip().startsWith("/");
            Checks.due(true, line.length() <= 120, "a short line: " + line);
            Checks.due(true, line.chars().allMatch(sign -> sign < 128), "plain signs: " + line);
            if (line.startsWith("import")) {
                Checks.due("import java.util.NoSuchElementException;", line, "the only import");
            }
            for (String strange : STRANGE) {
                Checks.due(false, !isComment && line.contains(strange), "no " + strange + " in: " + line);
            }
        }
    }
}
