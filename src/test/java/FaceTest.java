import java.io.IOException;
import java.lang.reflect.Constructor;
import java.lang.reflect.Field;
import java.lang.reflect.Method;
import java.lang.reflect.Modifier;
import java.nio.file.Files;
import java.nio.file.Path;
import java.util.Set;
import java.util.TreeSet;

/** The face of the document, and those rules of LANGUAGE.md that can be seen from outside or from single words. */
public final class FaceTest {
    private static final String FACE = "account(int) add() addLetter(char,char,int) addRule(int,int,int,int) "
            + "addVariant(int) by(int,int,int) changedShare() compare(int,int,int,int) derived(int,int,int,int) "
            + "exchange(int,int) feed(char) find() headword(int,int) join(int,int) letter(int,boolean) "
            + "letterOf(int,int,int) meanLength() moveLetter(int,int) ordered(int) perform() promote(int,int) "
            + "proves(int,int,int,int) refer(int,int) remove(int) removeRule(int) removeVariant(int,int) "
            + "rename(int) report(int,boolean) restore() rule(int,int) save() steps(int,int) undo()";

    private static final String[] STRANGE = {"::", "catch", "finally", "assert", "synchronized", "instanceof",
            "double[", "System.out", "Exact(", "hashCode", "toString", "equals(", "List", "String"};

    public static void main(String[] args) throws IOException {
        face();
        source();
        Checks.end("FaceTest");
    }

    private static void face() {
        Class<?> of = DialectDictionary.class;
        Set<String> names = new TreeSet<>();
        Set<String> publicNames = new TreeSet<>();
        for (Method method : of.getDeclaredMethods()) {
            if (!method.isSynthetic() && Modifier.isPublic(method.getModifiers())) {
                StringBuilder types = new StringBuilder();
                for (Class<?> type : method.getParameterTypes()) {
                    types.append(types.length() == 0 ? "" : ",").append(type.getSimpleName());
                }
                names.add(method.getName() + "(" + types + ")");
                publicNames.add(method.getName());
            }
        }
        Checks.due(FACE, String.join(" ", names), "the public methods");
        for (Method method : of.getDeclaredMethods()) {
            boolean isOwn = Modifier.isPrivate(method.getModifiers());
            Checks.due(true, method.isSynthetic() || isOwn || publicNames.contains(method.getName()),
                    "no method beside the face that others see: " + method.getName());
            Checks.due(false, isOwn && publicNames.contains(method.getName()),
                    "no private method with a public name: " + method.getName());
        }
        for (Field field : of.getDeclaredFields()) {
            Checks.due(true, Modifier.isPrivate(field.getModifiers()), "a private field: " + field.getName());
        }
        Constructor<?>[] constructors = of.getDeclaredConstructors();
        Checks.due(1, constructors.length, "one constructor");
        Checks.due(true, Modifier.isFinal(of.getModifiers()), "a final class");
        Checks.due(true, of.getDeclaredClasses().length <= 12, "some twelve classes");
    }

    private static void source() throws IOException {
        for (String line : Files.readAllLines(Path.of("src/main/java/DialectDictionary.java"))) {
            boolean isComment = line.strip().startsWith("*") || line.strip().startsWith("/");
            Checks.due(true, line.length() <= 120, "a short line: " + line);
            Checks.due(true, line.chars().allMatch(sign -> sign < 128), "plain signs: " + line);
            if (line.startsWith("import")) {
                Checks.due("import java.util.NoSuchElementException;", line, "the only import");
            }
            for (String strange : STRANGE) {
                Checks.due(false, !isComment && line.contains(strange), "no " + strange + " in: " + line);
            }
        }
    }
}
