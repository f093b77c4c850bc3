import java.io.IOException;
import java.lang.reflect.Constructor;
import java.lang.reflect.Field;
import java.lang.reflect.Method;
import java.lang.reflect.Modifier;
import java.nio.file.Files;
import java.nio.file.Path;
import java.util.ArrayList;
import java.util.Arrays;
import java.util.Collections;
import java.util.List;
import java.util.regex.Pattern;

/** The public face of the document, and what can be seen of LANGUAGE.md's rules from the class and its text. */
public final class FaceTest {
    private static final Path SOURCE = Path.of("src/main/java/BatonKernel.java");
    private static final List<String> FACE = List.of(
            "boolean activate(int, int)", "boolean instruct(int, int, int, int)", "boolean interrupt(int)",
            "boolean kill(int)", "boolean resource(int, int, boolean)", "boolean stuck()",
            "boolean tank(int, int, int)", "int free(int)", "int held(int, int)", "int level(int)",
            "int place(int)", "int process(int, int, int)", "int run(int, long)", "int state(int)",
            "int traced(int)", "int waiting(int)", "long area(int)", "long next()", "long now()", "long waited(int)");
    private static final List<String> RULED_OUT = List.of(
            "\\bthrow\\b", "\\btry\\b", "\\bcatch\\b", "\\bsynchronized\\b", "\\bassert\\b", "\\bimport\\b",
            "\\bpackage\\b", "->", "::", "\\bdouble\\b", "\\bfloat\\b", "\\bstatic\\s*\\{", "\\bSystem\\b(?!\\.arraycopy)",
            "\\bprotected\\b", "Exact\\b", "\\bhashCode\\b", "\\btoString\\b", "\\bequals\\b");

    public static void main(String[] args) throws IOException {
        checkFace();
        checkClasses();
        checkText();
        Script.end();
    }

    private static void checkFace() {
        Class<?> type = BatonKernel.class;
        Script.due("public and final", type.getModifiers(), Modifier.PUBLIC | Modifier.FINAL);
        List<String> methods = new ArrayList<>();
        for (Method method : type.getDeclaredMethods()) {
            if (!Modifier.isPrivate(method.getModifiers())) {
                Script.due(method + " is public and no more", method.getModifiers(), Modifier.PUBLIC);
                String types = Arrays.toString(Arrays.stream(method.getParameterTypes()).map(Class::getName).toArray());
                methods.add(method.getReturnType() + " " + method.getName() + "("
                        + types.substring(1, types.length() - 1) + ")");
            }
        }
        Collections.sort(methods);
        Script.due("the methods", methods, FACE);
        Constructor<?>[] constructors = type.getDeclaredConstructors();
        Script.due("constructors", constructors.length, 1);
        Script.due("the constructor", constructors[0].toString(), "public BatonKernel()");
    }

    private static void checkClasses() {
        List<Class<?>> types = new ArrayList<>(List.of(BatonKernel.class.getDeclaredClasses()));
        for (Class<?> inside : types) {
            Script.due(inside + " is static", Modifier.isStatic(inside.getModifiers()), true);
            Script.due(inside + " is not public", Modifier.isPublic(inside.getModifiers()), false);
            for (Method method : inside.getDeclaredMethods()) {
                boolean taken = FACE.stream().anyMatch(one -> one.contains(" " + method.getName() + "("));
                Script.due(method + " bears a name of the face", taken, false);
            }
        }
        Script.due("at most twelve classes", types.size() < 12, true);
        for (Field field : BatonKernel.class.getDeclaredFields()) {
            Script.due(field + " is private", Modifier.isPrivate(field.getModifiers()), true);
        }
        types.add(BatonKernel.class);
        for (Class<?> type : types) {
            long fields = Arrays.stream(type.getDeclaredFields()).filter(f -> !Modifier.isStatic(f.getModifiers())).count();
            Script.due(type + " has at most twenty fields", fields <= 20, true);
            for (Field field : type.getDeclaredFields()) {
                boolean fine = !Modifier.isStatic(field.getModifiers()) || Modifier.isFinal(field.getModifiers());
                Script.due(field + " is final if static", fine, true);
            }
        }
        checkPrivateNames();
    }

    private static void checkPrivateNames() {
        for (Method method : BatonKernel.class.getDeclaredMethods()) {
            boolean taken = FACE.stream().anyMatch(one -> one.contains(" " + method.getName() + "("));
            Script.due(method + " bears a name of the face", taken, !Modifier.isPrivate(method.getModifiers()));
        }
    }

    private static void checkText() throws IOException {
        String text = Files.readString(SOURCE).replaceAll("(?s)/\\*.*?\\*/", "").replaceAll("//[^\n]*", "");
        for (String word : RULED_OUT) {
            Script.due("the text has " + word, Pattern.compile(word).matcher(text).find(), false);
        }
        // Objects are made where fields and the constructor make them, and by no call after that.
        String calls = text.substring(text.indexOf("public int process("), text.indexOf("private static final class"));
        Script.due("a call makes an object", calls.contains("new "), false);
    }
}
