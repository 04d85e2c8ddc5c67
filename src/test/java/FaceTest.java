import java.lang.reflect.Constructor;
import java.lang.reflect.Field;
import java.lang.reflect.Method;
import java.lang.reflect.Modifier;
import java.util.Set;
import java.util.TreeSet;

/** The public face of the document, and rule 1 of the language: this face and nothing else. */
public final class FaceTest {
    private static final String STATE = "java.lang.IllegalStateException";
    private static final String ARGUMENT = "java.lang.IllegalArgumentException";
    private static final String MISSING = "java.util.NoSuchElementException";

    private static final String[] FACE = {
        "int group(int)",
        "void begin(int,int,boolean) " + ARGUMENT,
        "void coefficient(int,int,int) " + STATE + " " + ARGUMENT,
        "int advance() " + STATE,
        "void tamper(int,int,int) " + STATE + " " + ARGUMENT,
        "void forge(int,int) " + STATE + " " + ARGUMENT,
        "boolean corrupt(int) " + STATE + " " + ARGUMENT,
        "boolean accuse(int) " + STATE + " " + ARGUMENT,
        "boolean answer(int,int,int) " + STATE + " " + ARGUMENT + " " + MISSING,
        "boolean open(int) " + STATE + " " + ARGUMENT,
        "boolean show(int,int,int) " + STATE + " " + ARGUMENT,
        "int secret() " + STATE + " " + MISSING,
        "int relation() " + STATE + " " + MISSING,
        "int stage()",
        "int commitment(int)",
        "int share(int,int)",
        "boolean fits(int)",
        "int complaints()",
        "int opened()",
    };

    public static void main(String[] args) {
        Class<?> face = DealtSecret.class;
        Checks.yes("public final", Modifier.isPublic(face.getModifiers()) && Modifier.isFinal(face.getModifiers()));
        checkMethods(face);
        checkConstructors(face);
        for (Field field : face.getDeclaredFields()) {
            Checks.yes("private field " + field.getName(), Modifier.isPrivate(field.getModifiers()));
        }
        for (Class<?> inside : face.getDeclaredClasses()) {
            int modifiers = inside.getModifiers();
            Checks.yes("static class " + inside, Modifier.isStatic(modifiers));
            Checks.no("open class " + inside, Modifier.isPublic(modifiers) || Modifier.isProtected(modifiers));
        }
        Checks.end("FaceTest");
    }

    private static void checkMethods(Class<?> face) {
        Set<String> missing = new TreeSet<>(Set.of(FACE));
        Set<String> publicNames = new TreeSet<>();
        Set<String> privateNames = new TreeSet<>();
        for (Method method : face.getDeclaredMethods()) {
            if (Modifier.isPrivate(method.getModifiers())) {
                privateNames.add(method.getName());
            } else {
                publicNames.add(method.getName());
                Checks.yes("public, not static: " + method,
                        (method.getModifiers() & (Modifier.PUBLIC | Modifier.STATIC)) == Modifier.PUBLIC);
                Checks.yes("in the face: " + written(method), missing.remove(written(method)));
            }
        }
        Checks.yes("all of the face, missing " + missing, missing.isEmpty());
        privateNames.retainAll(publicNames);
        Checks.yes("no private method named as a public one: " + privateNames, privateNames.isEmpty());
    }

    private static String written(Method method) {
        StringBuilder text = new StringBuilder(method.getReturnType().getName());
        text.append(' ').append(method.getName()).append('(');
        String comma = "";
        for (Class<?> type : method.getParameterTypes()) {
            text.append(comma).append(type.getName());
            comma = ",";
        }
        text.append(')');
        for (Class<?> type : method.getExceptionTypes()) {
            text.append(' ').append(type.getName());
        }
        return text.toString();
    }

    private static void checkConstructors(Class<?> face) {
        Constructor<?>[] all = face.getDeclaredConstructors();
        Checks.same("constructors", all.length, 1);
        Checks.yes("public constructor", Modifier.isPublic(all[0].getModifiers()));
        Checks.same("parameters of the constructor", all[0].getParameterCount(), 4);
    }
}
