import java.lang.reflect.Constructor;
import java.lang.reflect.Field;
import java.lang.reflect.Method;
import java.lang.reflect.Modifier;
import java.lang.reflect.Parameter;
import java.util.ArrayList;
import java.util.List;

/**
 * The public face, word for word as the document's code block has it, and nothing
 * beside it (rule 1 of LANGUAGE.md). The names of the arguments are there because
 * the class is compiled with -parameters.
 */
public final class FaceTest {
    private static final Check check = new Check();

    private static final String[] METHODS = {
        "public int add(int pitch, int length) throws IllegalArgumentException, IllegalStateException;",
        "public int note(int tune, int pitch, int length)"
                + " throws IndexOutOfBoundsException, IllegalArgumentException, IllegalStateException;",
        "public int correct(int tune, int note, int pitch, int length)"
                + " throws IndexOutOfBoundsException, IllegalArgumentException;",
        "public void shift(int tune, int by)"
                + " throws IndexOutOfBoundsException, IllegalArgumentException, IllegalStateException;",
        "public int retire(int tune) throws IndexOutOfBoundsException;",
        "public int tunes();",
        "public int notes(int tune) throws IndexOutOfBoundsException;",
        "public int step(int tune, int note) throws IndexOutOfBoundsException;",
        "public int shared(int one, int other) throws IndexOutOfBoundsException;",
        "public int hum(int pitch) throws IllegalArgumentException, IllegalStateException;",
        "public int hush();",
        "public int hummed();",
        "public void setCosts(int slip, int ornament, int repeat) throws IllegalArgumentException;",
        "public int cost(int tune) throws IndexOutOfBoundsException;",
        "public int costByAll(int tune) throws IndexOutOfBoundsException, IllegalStateException;",
        "public int matches();",
        "public int found(int rank) throws IndexOutOfBoundsException;",
        "public int likeContour();",
        "public int places(int steps) throws IllegalArgumentException, IllegalStateException;",
        "public int place(int steps, int place)"
                + " throws IllegalArgumentException, IllegalStateException, IndexOutOfBoundsException;",
        "public int link(int one, int other)"
                + " throws IndexOutOfBoundsException, IllegalArgumentException, IllegalStateException;",
        "public int cut(int one, int other) throws IndexOutOfBoundsException, IllegalStateException;",
        "public int family(int tune) throws IndexOutOfBoundsException;",
        "public int families();",
    };

    public static void main(String[] args) {
        theClass();
        theConstructor();
        methods();
        otherMembers();
        check.end("FaceTest");
    }

    private static void theClass() {
        Class<?> face = TuneCatalogue.class;
        told("the class", Modifier.toString(face.getModifiers()) + " class " + face.getName(),
                "public final class TuneCatalogue");
        check.holds("it has no package", face.getPackageName().isEmpty());
        // What it inherited would be seen, too.
        check.holds("it extends nothing", face.getSuperclass() == Object.class);
        check.holds("it implements nothing", face.getInterfaces().length == 0);
        check.holds("it has no type arguments", face.getTypeParameters().length == 0);
    }

    private static void theConstructor() {
        Constructor<?>[] constructors = TuneCatalogue.class.getDeclaredConstructors();
        check.same("constructors", constructors.length, 1);
        told("the constructor", Modifier.toString(constructors[0].getModifiers()) + " "
                + constructors[0].getName() + list(constructors[0].getParameters())
                + thrown(constructors[0].getExceptionTypes()) + ";", "public TuneCatalogue();");
    }

    private static void methods() {
        List<String> left = new ArrayList<>(List.of(METHODS));
        List<String> names = new ArrayList<>();
        for (String line : METHODS) {
            names.add(line.replaceAll("\\(.*", "").replaceAll(".* ", ""));
        }
        for (Method method : TuneCatalogue.class.getDeclaredMethods()) {
            String told = told(method);
            if (left.remove(told)) {
                check.holds(told, true);
                continue;
            }
            check.holds(told + " is private", Modifier.isPrivate(method.getModifiers()));
            check.holds(told + " bears no name of the face", !names.contains(method.getName()));
        }
        check.holds("none is missing of " + left, left.isEmpty());
    }

    private static void told(String what, String answer, String due) {
        check.holds(what + " is told as " + answer, answer.equals(due));
    }

    private static String told(Method method) {
        String modifiers = Modifier.toString(method.getModifiers());
        return modifiers + " " + method.getReturnType().getName() + " " + method.getName()
                + list(method.getParameters()) + thrown(method.getExceptionTypes()) + ";";
    }

    private static String list(Parameter[] parameters) {
        List<String> told = new ArrayList<>();
        for (Parameter parameter : parameters) {
            told.add(parameter.getType().getName() + " " + parameter.getName());
        }
        return "(" + String.join(", ", told) + ")";
    }

    private static String thrown(Class<?>[] exceptions) {
        List<String> told = new ArrayList<>();
        for (Class<?> exception : exceptions) {
            told.add(exception.getSimpleName());
        }
        return told.isEmpty() ? "" : " throws " + String.join(", ", told);
    }

    private static void otherMembers() {
        for (Field field : TuneCatalogue.class.getDeclaredFields()) {
            int modifiers = field.getModifiers();
            check.holds(field + " is private", Modifier.isPrivate(modifiers));
            check.holds(field + " is final if static", Modifier.isFinal(modifiers) || !Modifier.isStatic(modifiers));
        }
        for (Class<?> inside : TuneCatalogue.class.getDeclaredClasses()) {
            check.holds(inside + " is static and not seen outside", Modifier.isStatic(inside.getModifiers())
                    && !Modifier.isPublic(inside.getModifiers()) && !Modifier.isProtected(inside.getModifiers()));
        }
    }
}
