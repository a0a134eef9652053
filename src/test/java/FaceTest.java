import java.io.IOException;
import java.lang.reflect.Constructor;
import java.lang.reflect.Field;
import java.lang.reflect.Member;
import java.lang.reflect.Method;
import java.lang.reflect.Modifier;
import java.nio.file.Files;
import java.nio.file.Path;
import java.util.Arrays;
import java.util.Set;
import java.util.TreeSet;
import java.util.regex.Pattern;

/** The public face, the constants, and those rules of LANGUAGE.md that can be read off the file. */
final class FaceTest {
    private static final Check check = new Check();
    private static final Path FILE = Path.of("src/main/java/StoreBufferCores.java");

    private static final Set<String> METHODS = Set.of(
        "boolean put(int, int, int, int, int, int)", "boolean recovery(int, int)", "int step(int)",
        "int run(int, int)", "boolean drain(int, int)", "int settle(int)", "boolean evict(int)",
        "void crash()", "int register(int, int)", "int place(int)", "int pending(int)",
        "int entry(int, int, int)", "int sees(int, int)", "int memory(int)", "int storage(int)",
        "boolean dirty(int)", "int cores()");
    private static final Set<String> CONSTANTS = Set.of(
        "NONE", "DONE", "WAITS", "HALTED", "STORE", "FLUSH", "LAZY", "ORDER");

    public static void main(String[] args) throws IOException {
        constants();
        publicMembers();
        faceAsTheDocumentSaysIt();
        classesInside();
        limitsOfClasses(StoreBufferCores.class);
        forbiddenWords();
        check.end();
    }

    private static void constants() {
        check.due("NONE", StoreBufferCores.NONE, -1);
        check.due("DONE", StoreBufferCores.DONE, 0);
        check.due("WAITS", StoreBufferCores.WAITS, 1);
        check.due("HALTED", StoreBufferCores.HALTED, 2);
        check.due("STORE", StoreBufferCores.STORE, 0);
        check.due("FLUSH", StoreBufferCores.FLUSH, 1);
        check.due("LAZY", StoreBufferCores.LAZY, 2);
        check.due("ORDER", StoreBufferCores.ORDER, 3);
    }

    private static boolean isPrivate(Member member) {
        return Modifier.isPrivate(member.getModifiers());
    }

    private static boolean isPublic(Member member) {
        return Modifier.isPublic(member.getModifiers());
    }

    private static void publicMembers() {
        Class<?> face = StoreBufferCores.class;
        check.due("public and final", face.getModifiers(), Modifier.PUBLIC | Modifier.FINAL);
        Set<String> methods = new TreeSet<>();
        for (Method method : face.getDeclaredMethods()) {
            check.due(method + " is public or private", isPublic(method) || isPrivate(method), true);
            if (isPublic(method)) {
                methods.add(said(method));
            }
        }
        check.due("the methods " + methods, methods.equals(METHODS), true);
        Set<String> constants = new TreeSet<>();
        for (Field field : face.getDeclaredFields()) {
            check.due(field + " is public or private", isPublic(field) || isPrivate(field), true);
            if (isPublic(field)) {
                constants.add(field.getName());
            }
        }
        check.due("the constants " + constants, constants.equals(CONSTANTS), true);
        Constructor<?>[] made = face.getDeclaredConstructors();
        check.due("constructors", made.length, 1);
        check.due("a public constructor", isPublic(made[0]), true);
    }

    private static String said(Method method) {
        String types = Arrays.toString(method.getParameterTypes());
        return method.getReturnType() + " " + method.getName()
            + "(" + types.substring(1, types.length() - 1) + ")";
    }

    private static void faceAsTheDocumentSaysIt() throws IOException {
        String document = Files.readString(Sentences.document());
        int from = document.indexOf("## The public face");
        String face = document.substring(from, document.indexOf("## Terms", from));
        check.due("what is public", publicLines(Files.readString(FILE)), publicLines(face));
    }

    private static Set<String> publicLines(String text) {
        Set<String> lines = new TreeSet<>();
        for (String line : text.split("\n")) {
            if (line.strip().startsWith("public ")) {
                lines.add(line.strip().replaceAll("( \\{|;)$", ""));
            }
        }
        return lines;
    }

    private static void classesInside() {
        Set<String> names = new TreeSet<>();
        for (String method : METHODS) {
            names.add(method.substring(method.indexOf(' ') + 1, method.indexOf('(')));
        }
        for (Class<?> inside : StoreBufferCores.class.getDeclaredClasses()) {
            check.due(inside + " is static", Modifier.isStatic(inside.getModifiers()), true);
            for (Method method : inside.getDeclaredMethods()) {
                check.due(method + " has a name of the face", names.contains(method.getName()), false);
            }
        }
        for (Method method : StoreBufferCores.class.getDeclaredMethods()) {
            if (isPrivate(method)) {
                check.due(method + " has a name of the face", names.contains(method.getName()), false);
            }
        }
    }

    /** Rules 5 and 11: no static field that changes, and not too many of anything. */
    private static void limitsOfClasses(Class<?> type) {
        check.due("classes inside " + type, type.getDeclaredClasses().length <= 11, true);
        int fields = 0;
        for (Field field : type.getDeclaredFields()) {
            boolean isStatic = Modifier.isStatic(field.getModifiers());
            fields += isStatic ? 0 : 1;
            check.due(field + " is final if it is static",
                !isStatic || Modifier.isFinal(field.getModifiers()), true);
        }
        check.due("fields of " + type, fields <= 20, true);
        for (Method method : type.getDeclaredMethods()) {
            check.due("parameters of " + method, method.getParameterCount() <= 7, true);
        }
        for (Class<?> inside : type.getDeclaredClasses()) {
            limitsOfClasses(inside);
        }
    }

    private static void forbiddenWords() throws IOException {
        String text = Files.readString(FILE);
        String[] forbidden = {
            "->", "::", "\\bpackage\\b", "\\bsynchronized\\b", "\\bassert\\b", "\\bfinally\\b",
            "\\btry\\b", "\\bthrow\\b", "\\bimport\\b", "\\bprotected\\b", "\\bstatic \\{",
            "Exact\\(", "\\bRandom\\b", "\\bThread\\b", "\\bwhile \\(true\\)"};
        for (String word : forbidden) {
            check.due("has " + word, Pattern.compile(word).matcher(text).find(), false);
        }
        check.due("has plain characters alone", text.chars().allMatch(c -> c < 128), true);
    }
}
