import java.lang.reflect.Constructor;
import java.lang.reflect.Field;
import java.lang.reflect.Method;
import java.lang.reflect.Modifier;
import java.util.Arrays;
import java.util.HashSet;
import java.util.Set;

/** The class has the document's public face, and nothing visible beside it. */
public final class FaceTest {
    private static final String[] FACE = {
        "int house(int, boolean) IndexOutOfBoundsException IllegalStateException",
        "int stop(int, int) IndexOutOfBoundsException IllegalStateException",
        "int drop(int) IndexOutOfBoundsException",
        "int lay(int, int, int) IndexOutOfBoundsException IllegalArgumentException IllegalStateException",
        "int branch(int, int, int) IndexOutOfBoundsException IllegalArgumentException IllegalStateException",
        "int takeUp(int) IndexOutOfBoundsException",
        "int give(int, int) IndexOutOfBoundsException IllegalArgumentException IllegalStateException",
        "int set(int, int) IndexOutOfBoundsException IllegalArgumentException",
        "int append(int) IllegalArgumentException IllegalStateException",
        "int clearBuffer()",
        "int firstError()",
        "int play() IllegalArgumentException",
        "int undo() IllegalStateException",
        "int square(int, int) IndexOutOfBoundsException IllegalArgumentException",
        "int stopOf(int, int) IndexOutOfBoundsException IllegalArgumentException",
        "int player(int, int) IndexOutOfBoundsException IllegalArgumentException",
        "int refusal(int, int, int) IndexOutOfBoundsException IllegalArgumentException",
        "int count(int) IllegalArgumentException",
        "int setting(int) IndexOutOfBoundsException",
        "int away(int, int) IndexOutOfBoundsException",
        "int cheapest(int, int) IndexOutOfBoundsException",
        "int best(int, int) IndexOutOfBoundsException IllegalArgumentException",
        "int ahead()",
        "double shared()",
        "long digest()"};

    private static int wrong = 0;

    public static void main(String[] args) throws Exception {
        Set<String> missing = new HashSet<>(Arrays.asList(FACE));
        Set<String> publicNames = new HashSet<>();
        for (Method method : TramTolls.class.getDeclaredMethods()) {
            if (Modifier.isPublic(method.getModifiers())) {
                publicNames.add(method.getName());
                demand(missing.remove(told(method)), "not in the document: " + told(method));
            }
        }
        demand(missing.isEmpty(), "missing: " + missing);
        hiddenMethods(TramTolls.class, publicNames);
        for (Class<?> inside : TramTolls.class.getDeclaredClasses()) {
            demand(Modifier.isStatic(inside.getModifiers()), "not static: " + inside);
            hiddenMethods(inside, publicNames);
        }
        for (Field field : TramTolls.class.getDeclaredFields()) {
            boolean isNone = field.getName().equals("NONE");
            demand(isNone || Modifier.isPrivate(field.getModifiers()), "not private: " + field);
        }
        int none = Modifier.PUBLIC | Modifier.STATIC | Modifier.FINAL;
        demand(TramTolls.class.getField("NONE").getModifiers() == none, "NONE is not a public constant");
        Constructor<?>[] constructors = TramTolls.class.getDeclaredConstructors();
        demand(constructors.length == 1 && constructors[0].getParameterCount() == 0, "constructors");
        demand(Modifier.isPublic(constructors[0].getModifiers()), "the constructor is not public");
        demand(TramTolls.class.getModifiers() == (Modifier.PUBLIC | Modifier.FINAL), "the class's modifiers");
        System.out.println(wrong == 0 ? "the face is as due" : wrong + " faults of the face");
        if (wrong != 0) {
            System.exit(1);
        }
    }

    private static void hiddenMethods(Class<?> owner, Set<String> publicNames) {
        for (Method method : owner.getDeclaredMethods()) {
            boolean ofFace = owner == TramTolls.class && Modifier.isPublic(method.getModifiers());
            if (ofFace || method.isSynthetic()) {
                continue;
            }
            demand(!publicNames.contains(method.getName()), "bears a public name: " + method);
            boolean isInside = owner != TramTolls.class;
            demand(isInside || Modifier.isPrivate(method.getModifiers()), "not private: " + method);
        }
    }

    private static String told(Method method) {
        StringBuilder told = new StringBuilder();
        told.append(method.getReturnType().getName()).append(' ').append(method.getName()).append('(');
        for (int i = 0; i < method.getParameterCount(); i++) {
            told.append(i > 0 ? ", " : "").append(method.getParameterTypes()[i].getName());
        }
        told.append(')');
        for (Class<?> thrown : method.getExceptionTypes()) {
            told.append(' ').append(thrown.getSimpleName());
        }
        return told.toString();
    }

    private static void demand(boolean holds, String fault) {
        if (!holds) {
            wrong++;
            System.out.println(fault);
        }
    }
}
