import java.lang.reflect.Constructor;
import java.lang.reflect.Field;
import java.lang.reflect.Method;
import java.lang.reflect.Modifier;
import java.nio.charset.StandardCharsets;
import java.nio.file.Files;
import java.nio.file.Path;
import java.util.Set;
import java.util.TreeSet;

/** The class has the document's face and shows nothing else (LANGUAGE.md, rules 1, 5, 11). Run from the root. */
final class FaceTest {
    private static final Path DOCUMENT = Path.of("..", "shared", "DOC.md");
    private static final int METHODS = 32;

    public static void main(String[] args) throws java.io.IOException {
        Class<?> face = FilledHoles.class;
        Check.due("NONE", -1, FilledHoles.NONE);
        Check.due("public and final", Modifier.PUBLIC | Modifier.FINAL, face.getModifiers());
        checkMethods(face);
        checkConstructors(face);
        checkFields(face);
        checkClassesInside(face);
        Check.end();
    }

    /** Each method as "The public face" writes it, without the names of its arguments. */
    private static Set<String> documentFace() throws java.io.IOException {
        Set<String> face = new TreeSet<>();
        for (String line : Files.readAllLines(DOCUMENT, StandardCharsets.UTF_8)) {
            if (line.matches("    public (int|long) \\w+\\(.*\\).*;")) {
                face.add(line.substring(4, line.length() - 1).replaceAll("int \\w+([,)])", "int$1"));
            }
        }
        Check.due("methods of the document's face", METHODS, face.size());
        return face;
    }

    private static void checkMethods(Class<?> face) throws java.io.IOException {
        Set<String> due = documentFace();
        Set<String> publicNames = new TreeSet<>();
        for (String written : due) {
            publicNames.add(written.replaceAll("public \\w+ (\\w+).*", "$1"));
        }
        for (Method method : face.getDeclaredMethods()) {
            if (Modifier.isPublic(method.getModifiers())) {
                Check.due("in the face: " + written(method), 1, due.remove(written(method)) ? 1 : 0);
            } else {
                Check.due("private: " + method, 1, Modifier.isPrivate(method.getModifiers()) ? 1 : 0);
                Check.due("own name: " + method, 0, publicNames.contains(method.getName()) ? 1 : 0);
            }
        }
        for (String lacking : due) {
            Check.due("there is " + lacking, 1, 0);
        }
        for (Class<?> inside : face.getDeclaredClasses()) {
            for (Method method : inside.getDeclaredMethods()) {
                Check.due("own name: " + method, 0, publicNames.contains(method.getName()) ? 1 : 0);
                Check.due("at most seven parameters: " + method, 1, method.getParameterCount() <= 7 ? 1 : 0);
            }
        }
    }

    private static String written(Method method) {
        String throwing = names(method.getExceptionTypes());
        return Modifier.toString(method.getModifiers()) + " " + method.getReturnType().getSimpleName() + " "
                + method.getName() + "(" + names(method.getParameterTypes()) + ")"
                + (throwing.isEmpty() ? "" : " throws " + throwing);
    }

    private static String names(Class<?>[] types) {
        StringBuilder names = new StringBuilder();
        for (Class<?> type : types) {
            names.append(names.length() == 0 ? "" : ", ").append(type.getSimpleName());
        }
        return names.toString();
    }

    private static void checkConstructors(Class<?> face) {
        Constructor<?>[] constructors = face.getDeclaredConstructors();
        Check.due("constructors", 1, constructors.length);
        Check.due("the constructor is public", 1, Modifier.isPublic(constructors[0].getModifiers()) ? 1 : 0);
        Check.due("the constructor's parameters", 0, constructors[0].getParameterCount());
    }

    private static void checkFields(Class<?> face) {
        int instanceFields = 0;
        for (Field field : face.getDeclaredFields()) {
            boolean isNone = field.getName().equals("NONE");
            Check.due("seen outside: " + field, isNone ? Modifier.PUBLIC : Modifier.PRIVATE,
                    field.getModifiers() & (Modifier.PUBLIC | Modifier.PROTECTED | Modifier.PRIVATE));
            checkStatic(field);
            instanceFields += Modifier.isStatic(field.getModifiers()) ? 0 : 1;
        }
        Check.due("at most twenty fields", 1, instanceFields <= 20 ? 1 : 0);
    }

    private static void checkStatic(Field field) {
        boolean isFinal = Modifier.isFinal(field.getModifiers());
        Check.due("static fields are final: " + field, 1, !Modifier.isStatic(field.getModifiers()) || isFinal ? 1 : 0);
    }

    private static void checkClassesInside(Class<?> face) {
        Class<?>[] inside = face.getDeclaredClasses();
        Check.due("at most twelve classes", 1, inside.length + 1 <= 12 ? 1 : 0);
        for (Class<?> one : inside) {
            int modifiers = one.getModifiers();
            Check.due("static: " + one, 1, Modifier.isStatic(modifiers) ? 1 : 0);
            Check.due("not seen outside: " + one, 0, modifiers & (Modifier.PUBLIC | Modifier.PROTECTED));
            int instanceFields = 0;
            for (Field field : one.getDeclaredFields()) {
                checkStatic(field);
                instanceFields += Modifier.isStatic(field.getModifiers()) ? 0 : 1;
            }
            Check.due("at most twenty fields: " + one, 1, instanceFields <= 20 ? 1 : 0);
        }
    }
}
