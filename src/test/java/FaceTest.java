import java.lang.reflect.Constructor;
import java.lang.reflect.Field;
import java.lang.reflect.Method;
import java.lang.reflect.Modifier;
import java.util.Arrays;
import java.util.Set;
import java.util.TreeSet;

/** The document's public face: what it has, and that there is nothing else to be seen. */
public final class FaceTest {
    private static final String[] METHODS = {
        "int function(int,int) IllegalArgumentException IllegalStateException",
        "int bundle(int) IllegalArgumentException IllegalStateException",
        "int operation(int,int,int,int,int) IllegalArgumentException IllegalStateException",
        "int check(int) IllegalArgumentException",
        "int checked(int)",
        "void start(int,long,long) IllegalArgumentException IllegalStateException",
        "void force(int,long,long) IllegalArgumentException",
        "int run(int) IllegalArgumentException IllegalStateException",
        "int state(int)",
        "long belt(int) NoSuchElementException",
        "long result(int) NoSuchElementException",
        "long scratch(int) NoSuchElementException",
        "long cell(int) IndexOutOfBoundsException",
        "boolean setCell(int,long)",
        "int count(int)",
    };
    private static final Due due = new Due();

    public static void main(String[] args) {
        Class<?> face = BeltMachine.class;
        due.isTrue("public and final",
                Modifier.isPublic(face.getModifiers()) && Modifier.isFinal(face.getModifiers()));
        due.isTrue("no package", face.getPackageName().isEmpty());
        methods(face);
        fields(face);
        for (Class<?> inside : face.getDeclaredClasses()) {
            due.isTrue(inside + " is private and static", Modifier.isPrivate(inside.getModifiers())
                    && Modifier.isStatic(inside.getModifiers()));
            staticFields(inside);
        }
        due.isTrue("at most twelve classes", face.getDeclaredClasses().length < 12);
        Constructor<?>[] constructors = face.getDeclaredConstructors();
        due.same("constructors", constructors.length, 1);
        due.same("its parameters", constructors[0].getParameterCount(), 0);
        due.isTrue("public", Modifier.isPublic(constructors[0].getModifiers()));
        due.end();
    }

    private static void methods(Class<?> face) {
        Set<String> seen = new TreeSet<>();
        Set<String> hidden = new TreeSet<>();
        Set<String> names = new TreeSet<>();
        for (Method method : face.getDeclaredMethods()) {
            if (Modifier.isPrivate(method.getModifiers())) {
                hidden.add(method.getName());
            } else {
                seen.add(told(method));
                names.add(method.getName());
            }
        }
        Set<String> want = new TreeSet<>(Arrays.asList(METHODS));
        due.isTrue("the methods are " + seen + ", due are " + want, seen.equals(want));
        hidden.retainAll(names);
        due.isTrue("private methods with a public name: " + hidden, hidden.isEmpty());
    }

    private static String told(Method method) {
        StringBuilder text = new StringBuilder();
        text.append(method.getReturnType().getSimpleName()).append(' ').append(method.getName());
        String separator = "(";
        for (Class<?> parameter : method.getParameterTypes()) {
            text.append(separator).append(parameter.getSimpleName());
            separator = ",";
        }
        text.append(')');
        for (Class<?> exception : method.getExceptionTypes()) {
            text.append(' ').append(exception.getSimpleName());
        }
        return text.toString();
    }

    private static void fields(Class<?> face) {
        for (Field field : face.getDeclaredFields()) {
            boolean isNone = field.getName().equals("NONE");
            due.isTrue(field + " is private, but for NONE",
                    isNone ? Modifier.isPublic(field.getModifiers())
                            : Modifier.isPrivate(field.getModifiers()));
        }
        staticFields(face);
    }

    private static void staticFields(Class<?> of) {
        for (Field field : of.getDeclaredFields()) {
            boolean isStatic = Modifier.isStatic(field.getModifiers());
            due.isTrue(field + " is final", !isStatic || Modifier.isFinal(field.getModifiers()));
        }
    }
}
