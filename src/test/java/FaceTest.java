import java.lang.reflect.Constructor;
import java.lang.reflect.Field;
import java.lang.reflect.Method;
import java.lang.reflect.Modifier;
import java.util.Arrays;
import java.util.Set;
import java.util.TreeSet;

/** The public face is the document's, and nothing else can be seen from outside. */
public final class FaceTest {
    private static final String[] FACE = {
        "int box(int, int, int) IllegalStateException IllegalArgumentException",
        "int cylinder(int, int) IllegalStateException IllegalArgumentException",
        "void face(int, int, int) IndexOutOfBoundsException IllegalArgumentException",
        "long modulus(int, int) IndexOutOfBoundsException UnsupportedOperationException",
        "void join(int, int, boolean) IndexOutOfBoundsException IllegalStateException",
        "int order(int) IndexOutOfBoundsException",
        "int riserRow(int, int) IllegalStateException IllegalArgumentException",
        "int riser(int) IndexOutOfBoundsException UnsupportedOperationException",
        "void cutOff(int) IndexOutOfBoundsException IllegalStateException",
        "int feeder(int) IndexOutOfBoundsException",
        "int unfed(int) IndexOutOfBoundsException",
        "int flowRow(int, int) IllegalStateException IllegalArgumentException"
                + " UnsupportedOperationException",
        "int flow(int) IllegalStateException IllegalArgumentException",
        "int gate(int) IllegalStateException IllegalArgumentException"
                + " UnsupportedOperationException",
        "int pattern(int, int) IllegalArgumentException",
        "void molding(int, int) IllegalArgumentException",
        "int pack(int, int) IllegalStateException IllegalArgumentException"
                + " UnsupportedOperationException",
        "int packed(int, int) IndexOutOfBoundsException",
    };

    public static void main(String[] args) {
        int modifiers = FeedModulus.class.getModifiers();
        Check.holds("the class is public and final",
                Modifier.isPublic(modifiers) && Modifier.isFinal(modifiers));
        Check.holds("the class has no package", FeedModulus.class.getPackageName().isEmpty());
        constructor();
        methods();
        fields();
        for (Class<?> inside : FeedModulus.class.getDeclaredClasses()) {
            Check.holds(inside + " is static and not public",
                    Modifier.isStatic(inside.getModifiers())
                    && !Modifier.isPublic(inside.getModifiers())
                    && !Modifier.isProtected(inside.getModifiers()));
        }
        Check.end();
    }

    private static void constructor() {
        Constructor<?>[] constructors = FeedModulus.class.getDeclaredConstructors();
        Check.holds("one public constructor without parameters", constructors.length == 1
                && constructors[0].getParameterCount() == 0
                && Modifier.isPublic(constructors[0].getModifiers()));
    }

    private static void methods() {
        Set<String> due = new TreeSet<>(Arrays.asList(FACE));
        Set<String> publicNames = new TreeSet<>();
        Set<String> privateNames = new TreeSet<>();
        Set<String> got = new TreeSet<>();
        for (Method method : FeedModulus.class.getDeclaredMethods()) {
            if (Modifier.isPrivate(method.getModifiers())) {
                privateNames.add(method.getName());
            } else {
                got.add(written(method));
                publicNames.add(method.getName());
                Check.holds(method + " is public and of the object",
                        Modifier.isPublic(method.getModifiers())
                        && !Modifier.isStatic(method.getModifiers()));
            }
        }
        Check.holds("the methods are " + due + ", not " + got, got.equals(due));
        privateNames.retainAll(publicNames);
        Check.holds("no private method bears a public name: " + privateNames,
                privateNames.isEmpty());
    }

    private static void fields() {
        for (Field field : FeedModulus.class.getDeclaredFields()) {
            Check.holds(field + " is private", Modifier.isPrivate(field.getModifiers()));
            Check.holds(field + " is final", Modifier.isFinal(field.getModifiers()));
        }
    }

    private static String written(Method method) {
        StringBuilder text = new StringBuilder();
        text.append(method.getReturnType().getSimpleName()).append(' ');
        text.append(method.getName()).append('(');
        String comma = "";
        for (Class<?> type : method.getParameterTypes()) {
            text.append(comma).append(type.getSimpleName());
            comma = ", ";
        }
        text.append(')');
        for (Class<?> type : method.getExceptionTypes()) {
            text.append(' ').append(type.getSimpleName());
        }
        return text.toString();
    }
}
