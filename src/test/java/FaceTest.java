import java.lang.reflect.Constructor;
import java.lang.reflect.Field;
import java.lang.reflect.Method;
import java.lang.reflect.Modifier;
import java.util.Arrays;
import java.util.TreeSet;

/** The public face, and rule 1 of LANGUAGE.md: nothing but the face can be seen from outside. */
public final class FaceTest {
    private static final String[] FACE = {
        "boolean cut(int)",
        "boolean give(long, int)",
        "boolean poke(int, int)",
        "boolean start(int, int, int, int)",
        "boolean undo(int)",
        "int again(int, int)",
        "int begin(int)",
        "int byteAt(int, boolean)",
        "int input(int, int)",
        "int look(int)",
        "int read()",
        "int record(int, int, int, boolean, int)",
        "int write()",
        "void turnOver()",
    };

    public static void main(String[] args) throws Exception {
        Due due = new Due();
        Class<?> face = DemoTape.class;
        due.is("the class's modifiers", face.getModifiers(), Modifier.PUBLIC | Modifier.FINAL);
        due.same("methods", String.join("; ", methodsSeen(due, face)), String.join("; ", FACE));
        Constructor<?>[] constructors = face.getDeclaredConstructors();
        due.is("constructors", constructors.length, 1);
        due.yes("the constructor is public", Modifier.isPublic(constructors[0].getModifiers()));
        due.is("its parameters", constructors[0].getParameterCount(), 0);
        checkFields(due, face);
        due.finish();
    }

    private static TreeSet<String> methodsSeen(Due due, Class<?> face) {
        TreeSet<String> names = new TreeSet<>();
        TreeSet<String> seen = new TreeSet<>();
        for (Method method : face.getDeclaredMethods()) {
            if (!Modifier.isPrivate(method.getModifiers())) {
                due.is(method.getName() + "'s modifiers", method.getModifiers(), Modifier.PUBLIC);
                String types = Arrays.toString(method.getParameterTypes()).replace("[", "(").replace("]", ")");
                seen.add(method.getReturnType() + " " + method.getName() + types);
                names.add(method.getName());
            }
        }
        for (Method method : face.getDeclaredMethods()) {
            if (Modifier.isPrivate(method.getModifiers())) {
                due.no("a private method named " + method.getName(), names.contains(method.getName()));
            }
        }
        return seen;
    }

    private static void checkFields(Due due, Class<?> face) throws Exception {
        int open = 0;
        for (Field field : face.getDeclaredFields()) {
            if (Modifier.isStatic(field.getModifiers())) {
                due.yes(field.getName() + " is final", Modifier.isFinal(field.getModifiers()));
            }
            if (!Modifier.isPrivate(field.getModifiers())) {
                open++;
            }
        }
        due.is("fields that can be seen", open, 1);
        Field none = face.getField("NONE");
        due.yes("NONE is an int", none.getType() == int.class);
        due.is("NONE's modifiers", none.getModifiers(), Modifier.PUBLIC | Modifier.STATIC | Modifier.FINAL);
        due.is("NONE", none.getInt(null), -1);
    }
}
