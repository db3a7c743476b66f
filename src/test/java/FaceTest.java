import java.lang.reflect.Constructor;
import java.lang.reflect.Field;
import java.lang.reflect.Method;
import java.lang.reflect.Modifier;
import java.util.Map;
import java.util.Set;
import java.util.TreeMap;
import java.util.TreeSet;

/** The public face, and nothing beside it (rule 1 of LANGUAGE.md). */
public final class FaceTest {
    private static final Check check = new Check();

    private static final String[] FACE = {
        "int add(int,int) IAE ISE",
        "int note(int,int,int) IOOBE IAE ISE",
        "int correct(int,int,int,int) IOOBE IAE",
        "void shift(int,int) IOOBE IAE ISE",
        "int retire(int) IOOBE",
        "int tunes()",
        "int notes(int) IOOBE",
        "int step(int,int) IOOBE",
        "int shared(int,int) IOOBE",
        "int hum(int) IAE ISE",
        "int hush()",
        "int hummed()",
        "void setCosts(int,int,int) IAE",
        "int cost(int) IOOBE",
        "int costByAll(int) IOOBE ISE",
        "int matches()",
        "int found(int) IOOBE",
        "int likeContour()",
        "int places(int) IAE ISE",
        "int place(int,int) IAE ISE IOOBE",
        "int link(int,int) IOOBE IAE ISE",
        "int cut(int,int) IOOBE ISE",
        "int family(int) IOOBE",
        "int families()",
    };

    private static final Map<Class<?>, String> SHORT = Map.of(
            IllegalArgumentException.class, "IAE",
            IllegalStateException.class, "ISE",
            IndexOutOfBoundsException.class, "IOOBE");

    public static void main(String[] args) {
        theClass();
        methods();
        otherMembers();
        check.end("FaceTest");
    }

    private static void theClass() {
        int modifiers = TuneCatalogue.class.getModifiers();
        check.holds("the class is public and final", Modifier.isPublic(modifiers) && Modifier.isFinal(modifiers));
        Constructor<?>[] constructors = TuneCatalogue.class.getDeclaredConstructors();
        check.same("constructors", constructors.length, 1);
        check.holds("the constructor is public and takes nothing",
                Modifier.isPublic(constructors[0].getModifiers()) && constructors[0].getParameterCount() == 0);
    }

    private static void methods() {
        Map<String, String> face = new TreeMap<>();
        for (String line : FACE) {
            face.put(line.substring(line.indexOf(' ') + 1, line.indexOf('(')), line);
        }
        Set<String> left = new TreeSet<>(face.keySet());
        for (Method method : TuneCatalogue.class.getDeclaredMethods()) {
            String name = method.getName();
            if (method.isSynthetic() || !face.containsKey(name)) {
                check.holds(name + " is private", Modifier.isPrivate(method.getModifiers()));
                continue;
            }
            check.holds(name + " is public", Modifier.isPublic(method.getModifiers()));
            check.holds(name + " is told as " + told(method), face.get(name).equals(told(method)));
            check.holds(name + " is there once", left.remove(name));
        }
        check.holds("none is missing of " + left, left.isEmpty());
    }

    private static String told(Method method) {
        StringBuilder text = new StringBuilder();
        text.append(method.getReturnType().getName()).append(' ').append(method.getName()).append('(');
        String comma = "";
        for (Class<?> parameter : method.getParameterTypes()) {
            text.append(comma).append(parameter.getName());
            comma = ",";
        }
        text.append(')');
        for (Class<?> thrown : method.getExceptionTypes()) {
            text.append(' ').append(SHORT.get(thrown));
        }
        return text.toString();
    }

    private static void otherMembers() {
        for (Field field : TuneCatalogue.class.getDeclaredFields()) {
            int modifiers = field.getModifiers();
            check.holds(field + " is private", Modifier.isPrivate(modifiers));
            check.holds(field + " is final if static", Modifier.isFinal(modifiers) || !Modifier.isStatic(modifiers));
        }
        for (Class<?> inside : TuneCatalogue.class.getDeclaredClasses()) {
            check.holds(inside + " is static and not seen outside", Modifier.isStatic(inside.getModifiers())
                    && !Modifier.isPublic(inside.getModifiers()) && !Modifier.isProtected(inside.getModifiers()));
        }
    }
}
