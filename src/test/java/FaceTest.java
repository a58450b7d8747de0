import java.lang.reflect.Constructor;
import java.lang.reflect.Executable;
import java.lang.reflect.Field;
import java.lang.reflect.Method;
import java.lang.reflect.Modifier;
import java.util.HashSet;
import java.util.Set;
import java.util.TreeSet;

/** The class has the document's face and nothing else that can be seen. */
public final class FaceTest {
    private static final String ARGUMENT = " IllegalArgumentException";
    private static final String STATE = " IllegalStateException";
    private static final String UNSUPPORTED = " UnsupportedOperationException";

    private static final String[] FACE = {
        "int relay(int,int,int,int)" + ARGUMENT + STATE,
        "int contact(int,int,int,int)" + ARGUMENT + STATE,
        "int knob(int,int)" + ARGUMENT + STATE,
        "int diode(int,int)" + ARGUMENT + STATE,
        "int lamp(int,int)" + ARGUMENT + STATE,
        "boolean turn(int,boolean)" + ARGUMENT,
        "void dial(int,int,int)" + ARGUMENT,
        "int tick(int)" + ARGUMENT,
        "int settle(int)" + ARGUMENT + UNSUPPORTED,
        "int circle(int)" + ARGUMENT + UNSUPPORTED,
        "int race(int,boolean,int,int)" + ARGUMENT,
        "int state(int,int)" + ARGUMENT,
        "int ups()",
        "int lit()",
        "int node(int)" + ARGUMENT,
        "boolean leads(int,int)" + ARGUMENT,
        "boolean blown()",
        "boolean fuse()",
        "int count(int)",
    };

    public static void main(String[] args) {
        Check.runAll(FaceTest.class);
    }

    private static void classIsPublicAndFinal() {
        Check.yes("public", Modifier.isPublic(RelayBench.class.getModifiers()));
        Check.yes("final", Modifier.isFinal(RelayBench.class.getModifiers()));
    }

    private static void oneConstructor() {
        Constructor<?>[] makers = RelayBench.class.getDeclaredConstructors();
        Check.same("constructors", makers.length, 1);
        Check.yes("public", Modifier.isPublic(makers[0].getModifiers()));
        Check.same("parameters", makers[0].getParameterCount(), 0);
    }

    private static void fieldsArePrivate() {
        for (Field f : RelayBench.class.getDeclaredFields()) {
            Check.yes(f + " is private", Modifier.isPrivate(f.getModifiers()));
            Check.yes(f + " is final if static",
                    !Modifier.isStatic(f.getModifiers()) || Modifier.isFinal(f.getModifiers()));
        }
    }

    private static void classesInsideAreStatic() {
        for (Class<?> inside : RelayBench.class.getDeclaredClasses()) {
            Check.yes(inside + " is static", Modifier.isStatic(inside.getModifiers()));
            Check.no(inside + " is public", Modifier.isPublic(inside.getModifiers()));
        }
    }

    private static void methodsAreThoseOfTheDocument() {
        Set<String> seen = new TreeSet<>();
        Set<String> names = new HashSet<>();
        for (Method m : RelayBench.class.getDeclaredMethods()) {
            if (!Modifier.isPrivate(m.getModifiers())) {
                Check.yes(m + " is public", Modifier.isPublic(m.getModifiers()));
                seen.add(told(m));
                names.add(m.getName());
            }
        }
        Check.same("the face", seen.toString(), new TreeSet<>(Set.of(FACE)).toString());
        for (Method m : RelayBench.class.getDeclaredMethods()) {
            if (Modifier.isPrivate(m.getModifiers())) {
                Check.no(m + " bears a public name", names.contains(m.getName()));
            }
        }
    }

    private static String told(Method m) {
        return m.getReturnType().getSimpleName() + " " + m.getName() + "(" + parameters(m) + ")" + thrown(m);
    }

    private static String parameters(Executable m) {
        StringBuilder b = new StringBuilder();
        for (Class<?> type : m.getParameterTypes()) {
            b.append(b.length() == 0 ? "" : ",").append(type.getSimpleName());
        }
        return b.toString();
    }

    private static String thrown(Executable m) {
        StringBuilder b = new StringBuilder();
        for (Class<?> type : m.getExceptionTypes()) {
            b.append(' ').append(type.getSimpleName());
        }
        return b.toString();
    }
}
