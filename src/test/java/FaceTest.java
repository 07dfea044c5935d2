import java.lang.reflect.Constructor;
import java.lang.reflect.Field;
import java.lang.reflect.Method;
import java.lang.reflect.Modifier;
import java.util.Arrays;
import java.util.Set;
import java.util.TreeSet;

/** The public face: what the document names, and no other member that can be seen from outside. */
public final class FaceTest {
    private static final String[] METHODS = {
        "int draft(int, long) IllegalArgumentException",
        "int code() IllegalStateException",
        "void endow(int, long, int) IndexOutOfBoundsException IllegalArgumentException IllegalStateException",
        "void weight(int, int) IndexOutOfBoundsException IllegalArgumentException IllegalStateException",
        "int order(int, int, long, long, int, int, int) IndexOutOfBoundsException IllegalArgumentException IllegalStateException",
        "int block(int, int) IndexOutOfBoundsException IllegalStateException",
        "int told(int, int) IndexOutOfBoundsException",
        "long receipt(int, int, int) IndexOutOfBoundsException",
        "long event(int, int, int) IndexOutOfBoundsException",
        "long leaf(int, int) IndexOutOfBoundsException",
        "long digest(int, int, int) IndexOutOfBoundsException",
        "long view(int, int, int, long, int) IndexOutOfBoundsException IllegalArgumentException",
        "int seen(int) IndexOutOfBoundsException",
        "int vote(int, int) IndexOutOfBoundsException",
        "int certain(int) IndexOutOfBoundsException",
        "void beside(int, long) IndexOutOfBoundsException",
        "boolean proves(long, int, long) IndexOutOfBoundsException"};

    public static void main(String[] args) {
        Class<LedgerMachine> face = LedgerMachine.class;
        Check.same("public and final", face.getModifiers(), Modifier.PUBLIC | Modifier.FINAL);
        Constructor<?>[] constructors = face.getDeclaredConstructors();
        Check.same("constructors", constructors.length, 1);
        Check.same("its parameters", constructors[0].getParameterCount(), 0);
        methods(face);
        fields(face);
        Check.same("the value of NONE", LedgerMachine.NONE, -1);
        for (Class<?> inside : face.getDeclaredClasses()) {
            int modifiers = inside.getModifiers();
            boolean isHidden = !Modifier.isPublic(modifiers) && !Modifier.isProtected(modifiers);
            Check.same(inside.getName(), isHidden && Modifier.isStatic(modifiers), true);
        }
        Check.end();
    }

    private static void methods(Class<?> face) {
        Set<String> due = new TreeSet<>(Arrays.asList(METHODS));
        Set<String> seen = new TreeSet<>();
        Set<String> names = new TreeSet<>();
        for (Method method : face.getDeclaredMethods()) {
            if (!Modifier.isPrivate(method.getModifiers())) {
                seen.add(signature(method));
                names.add(method.getName());
            }
        }
        if (!seen.equals(due)) {
            Check.tell("the face is " + seen);
        }
        for (Method method : face.getDeclaredMethods()) {
            if (Modifier.isPrivate(method.getModifiers()) && names.contains(method.getName())) {
                Check.tell("a private method bears the name " + method.getName());
            }
        }
    }

    private static String signature(Method method) {
        StringBuilder text = new StringBuilder(method.getReturnType().getName() + " " + method.getName() + "(");
        String between = "";
        for (Class<?> type : method.getParameterTypes()) {
            text.append(between).append(type.getName());
            between = ", ";
        }
        text.append(")");
        for (Class<?> type : method.getExceptionTypes()) {
            text.append(" ").append(type.getSimpleName());
        }
        return text.toString();
    }

    private static void fields(Class<?> face) {
        for (Field field : face.getDeclaredFields()) {
            int modifiers = field.getModifiers();
            if (field.getName().equals("NONE")) {
                Check.same("NONE", modifiers, Modifier.PUBLIC | Modifier.STATIC | Modifier.FINAL);
            } else {
                Check.same(field.getName() + " is private", Modifier.isPrivate(modifiers), true);
            }
        }
    }
}
