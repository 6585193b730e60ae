import java.lang.reflect.Constructor;
import java.lang.reflect.Field;
import java.lang.reflect.Method;
import java.lang.reflect.Modifier;
import java.util.Set;
import java.util.TreeSet;

/** The class has the document's face and shows nothing else (LANGUAGE.md, rules 1 and 5). */
final class FaceTest {
    private static final String[] FACE = {
        "int feed int int int int int", "int text int", "int fault", "int set int int",
        "int hole int int int int", "int paint int int int", "int keep", "int fill int", "int guide int",
        "int undo", "int told int", "int dot int int int", "int rank int int int", "int next int",
        "int search int int int", "int difference int int int int int", "int front int int",
        "int part int int", "int ring int int", "int log int int", "int half int int int",
        "int ahead int int", "int flaw", "int flawBy int", "int tune int", "int reach int int int",
        "int seams int", "int favourite int", "int turning int", "int lent int int", "long print",
        "int status int"};

    public static void main(String[] args) {
        Class<?> face = FilledHoles.class;
        Check.due("NONE", -1, FilledHoles.NONE);
        Check.due("public and final", Modifier.PUBLIC | Modifier.FINAL, face.getModifiers());
        checkMethods(face);
        checkConstructors(face);
        checkFields(face);
        checkClassesInside(face);
        Check.end();
    }

    private static void checkMethods(Class<?> face) {
        Set<String> due = new TreeSet<>(Set.of(FACE));
        Set<String> publicNames = new TreeSet<>();
        for (String signature : FACE) {
            publicNames.add(signature.split(" ")[1]);
        }
        for (Method method : face.getDeclaredMethods()) {
            if (Modifier.isPublic(method.getModifiers())) {
                Check.due("in the face: " + signature(method), 1, due.remove(signature(method)) ? 1 : 0);
            } else {
                Check.due("private: " + method, 1, Modifier.isPrivate(method.getModifiers()) ? 1 : 0);
                Check.due("own name: " + method, 0, publicNames.contains(method.getName()) ? 1 : 0);
            }
        }
        for (String lacking : due) {
            Check.due("there is " + lacking, 1, 0);
        }
        for (Class<?> inside : face.getDeclaredClasses()) {
            for (Method method : inside.getDeclaredMethods()) {
                Check.due("own name: " + method, 0, publicNames.contains(method.getName()) ? 1 : 0);
                Check.due("at most seven parameters: " + method, 1, method.getParameterCount() <= 7 ? 1 : 0);
            }
        }
    }

    private static String signature(Method method) {
        StringBuilder text = new StringBuilder();
        text.append(method.getReturnType().getName()).append(' ').append(method.getName());
        for (Class<?> type : method.getParameterTypes()) {
            text.append(' ').append(type.getName());
        }
        return text.toString();
    }

    private static void checkConstructors(Class<?> face) {
        Constructor<?>[] constructors = face.getDeclaredConstructors();
        Check.due("constructors", 1, constructors.length);
        Check.due("the constructor is public", 1, Modifier.isPublic(constructors[0].getModifiers()) ? 1 : 0);
        Check.due("the constructor's parameters", 0, constructors[0].getParameterCount());
    }

    private static void checkFields(Class<?> face) {
        int instanceFields = 0;
        for (Field field : face.getDeclaredFields()) {
            boolean isNone = field.getName().equals("NONE");
            Check.due("seen outside: " + field, isNone ? Modifier.PUBLIC : Modifier.PRIVATE,
                    field.getModifiers() & (Modifier.PUBLIC | Modifier.PROTECTED | Modifier.PRIVATE));
            checkStatic(field);
            instanceFields += Modifier.isStatic(field.getModifiers()) ? 0 : 1;
        }
        Check.due("at most twenty fields", 1, instanceFields <= 20 ? 1 : 0);
    }

    private static void checkStatic(Field field) {
        boolean isFinal = Modifier.isFinal(field.getModifiers());
        Check.due("static fields are final: " + field, 1, !Modifier.isStatic(field.getModifiers()) || isFinal ? 1 : 0);
    }

    private static void checkClassesInside(Class<?> face) {
        Class<?>[] inside = face.getDeclaredClasses();
        Check.due("at most twelve classes", 1, inside.length + 1 <= 12 ? 1 : 0);
        for (Class<?> one : inside) {
            int modifiers = one.getModifiers();
            Check.due("static: " + one, 1, Modifier.isStatic(modifiers) ? 1 : 0);
            Check.due("not seen outside: " + one, 0, modifiers & (Modifier.PUBLIC | Modifier.PROTECTED));
            int instanceFields = 0;
            for (Field field : one.getDeclaredFields()) {
                checkStatic(field);
                instanceFields += Modifier.isStatic(field.getModifiers()) ? 0 : 1;
            }
            Check.due("at most twenty fields: " + one, 1, instanceFields <= 20 ? 1 : 0);
        }
    }
}
