import java.io.IOException;
import java.lang.reflect.Constructor;
import java.lang.reflect.Field;
import java.lang.reflect.Member;
import java.lang.reflect.Method;
import java.lang.reflect.Modifier;
import java.nio.file.Files;
import java.nio.file.Path;
import java.util.Arrays;
import java.util.Set;
import java.util.TreeSet;
import java.util.regex.Pattern;

/** The public face, the constants, and those rules of LANGUAGE.md that can be read off the file. */
final class FaceTest {
    private static final Check check = new Check();

    private static final Set<String> METHODS = Set.of(
        "boolean put(int, int, int, int, int, int)", "boolean recovery(int, int)", "int step(int)",
        "int run(int, int)", "boolean drain(int, int)", "int settle(int)", "boolean evict(int)",
        "void crash()", "int register(int, int)", "int place(int)", "int pending(int)",
        "int entry(int, int, int)", "int sees(int, int)", "int memory(int)", "int storage(int)",
        "boolean dirty(int)", "int cores()");
    private static final Set<String> CONSTANTS = Set.of(
        "NONE", "DONE", "WAITS", "HALTED", "STORE", "FLUSH", "LAZY", "ORDER");

    public static void main(String[] args) throws IOException {
        constants();
        publicMembers();
        classesInside();
        forbiddenWords();
        check.end();
    }

    private static void constants() {
        check.due("NONE", StoreBufferCores.NONE, -1);
        check.due("DONE", StoreBufferCores.DONE, 0);
        check.due("WAITS", StoreBufferCores.WAITS, 1);
        check.due("HALTED", StoreBufferCores.HALTED, 2);
        check.due("STORE", StoreBufferCores.STORE, 0);
        check.due("FLUSH", StoreBufferCores.FLUSH, 1);
        check.due("LAZY", StoreBufferCores.LAZY, 2);
        check.due("ORDER", StoreBufferCores.ORDER, 3);
    }

    private static boolean isPrivate(Member member) {
        return Modifier.isPrivate(member.getModifiers());
    }

    private static boolean isPublic(Member member) {
        return Modifier.isPublic(member.getModifiers());
    }

    private static void publicMembers() {
        Class<?> face = StoreBufferCores.class;
        check.due("public and final", face.getModifiers(), Modifier.PUBLIC | Modifier.FINAL);
        Set<String> methods = new TreeSet<>();
        for (Method method : face.getDeclaredMethods()) {
            check.due(method + " is public or private", isPublic(method) || isPrivate(method), true);
            if (isPublic(method)) {
                methods.add(said(method));
            }
        }
        check.due("the methods " + methods, methods.equals(METHODS), true);
        Set<String> constants = new TreeSet<>();
        for (Field field : face.getDeclaredFields()) {
            check.due(field + " is public or private", isPublic(field) || isPrivate(field), true);
            if (isPublic(field)) {
                constants.add(field.getName());
            }
        }
        check.due("the constants " + constants, constants.equals(CONSTANTS), true);
        Constructor<?>[] made = face.getDeclaredConstructors();
        check.due("constructors", made.length, 1);
        check.due("a public constructor", isPublic(made[0]), true);
    }

    private static String said(Method method) {
        String types = Arrays.toString(method.getParameterTypes());
        return method.getReturnType() + " " + method.getName()
            + "(" + types.substring(1, types.length() - 1) + ")";
    }

    private static void classesInside() {
        Set<String> names = new TreeSet<>();
        for (String method : METHODS) {
            names.add(method.substring(method.indexOf(' ') + 1, method.indexOf('(')));
        }
        for (Class<?> inside : StoreBufferCores.class.getDeclaredClasses()) {
            check.due(inside + " is static", Modifier.isStatic(inside.getModifiers()), true);
            for (Method method : inside.getDeclaredMethods()) {
                check.due(method + " has a name of the face", names.contains(method.getName()), false);
            }
        }
        for (Method method : StoreBufferCores.class.getDeclaredMethods()) {
            if (isPrivate(method)) {
                check.due(method + " has a name of the face", names.contains(method.getName()), false);
            }
        }
    }

    private static void forbiddenWords() throws IOException {
        String text = Files.readString(Path.of("src/main/java/StoreBufferCores.java"));
        String[] forbidden = {
            "->", "::", "\\bpackage\\b", "\\bsynchronized\\b", "\\bassert\\b", "\\bfinally\\b",
            "\\btry\\b", "\\bthrow\\b", "\\bimport\\b", "\\bprotected\\b", "\\bstatic \\{",
            "Exact\\(", "\\bRandom\\b", "\\bThread\\b", "\\bwhile \\(true\\)"};
        for (String word : forbidden) {
            check.due("has " + word, Pattern.compile(word).matcher(text).find(), false);
        }
        check.due("has plain characters alone", text.chars().allMatch(c -> c < 128), true);
    }
}
