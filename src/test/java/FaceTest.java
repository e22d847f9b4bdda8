import java.lang.reflect.Constructor;
import java.lang.reflect.Field;
import java.lang.reflect.Method;
import java.lang.reflect.Modifier;
import java.util.ArrayList;
import java.util.Collections;
import java.util.HashSet;
import java.util.List;
import java.util.Set;

/** The public face is that of the document, and no private method bears a public one's name. */
public final class FaceTest {
    private static final Check CHECK = new Check("FaceTest");
    private static final String ARGUMENT = " IllegalArgumentException";
    private static final String STATE = " IllegalStateException";
    private static final String INDEX = " IndexOutOfBoundsException";
    private static final String UNSUPPORTED = " UnsupportedOperationException";
    private static final String[] FACE = {
        "int arc(int,int)" + ARGUMENT + STATE,
        "int plan()" + UNSUPPORTED + STATE,
        "int leaders()",
        "boolean conform(int,boolean)",
        "int act(int)" + ARGUMENT + STATE + UNSUPPORTED,
        "int run(int)" + ARGUMENT,
        "void deploy(int)" + INDEX + STATE,
        "int step(int)",
        "int show(int)" + INDEX + ARGUMENT + STATE + UNSUPPORTED,
        "void clear()",
        "void back(int)" + INDEX + STATE + UNSUPPORTED,
        "int pass(int)",
        "int state(int)" + INDEX,
        "int open(int)" + INDEX,
        "int key(int,int,int)" + INDEX,
        "int outcome(int)" + INDEX,
    };

    public static void main(String[] args) {
        methods();
        constructors();
        fields();
        classes();
        CHECK.end();
    }

    private static String names(Class<?>[] types, String before, String between) {
        StringBuilder text = new StringBuilder();
        for (int i = 0; i < types.length; i++) {
            text.append(i == 0 ? before : between).append(types[i].getSimpleName());
        }
        return text.toString();
    }

    private static String told(Method method) {
        return method.getReturnType().getSimpleName() + " " + method.getName()
                + "(" + names(method.getParameterTypes(), "", ",") + ")"
                + names(method.getExceptionTypes(), " ", " ");
    }

    private static void methods() {
        List<String> got = new ArrayList<>();
        Set<String> open = new HashSet<>();
        for (Method method : SwapDesk.class.getDeclaredMethods()) {
            if (!Modifier.isPrivate(method.getModifiers())) {
                got.add(told(method));
                open.add(method.getName());
                CHECK.due(method + " is public and not static",
                        (method.getModifiers() & (Modifier.PUBLIC | Modifier.STATIC)) == Modifier.PUBLIC, true);
            }
        }
        List<String> due = new ArrayList<>(List.of(FACE));
        Collections.sort(got);
        Collections.sort(due);
        CHECK.tell("methods", got.toString(), due.toString());
        for (Method method : SwapDesk.class.getDeclaredMethods()) {
            if (Modifier.isPrivate(method.getModifiers())) {
                CHECK.due(method + " bears the name of a public one", open.contains(method.getName()), false);
            }
        }
    }

    private static void constructors() {
        Constructor<?>[] all = SwapDesk.class.getDeclaredConstructors();
        CHECK.due("constructors", all.length, 1);
        CHECK.tell("constructor", all[0].toString(), "public SwapDesk(int,int)");
    }

    private static void fields() {
        for (Field field : SwapDesk.class.getDeclaredFields()) {
            CHECK.due(field + " is private", Modifier.isPrivate(field.getModifiers()), true);
            if (Modifier.isStatic(field.getModifiers())) {
                CHECK.due(field + " is final", Modifier.isFinal(field.getModifiers()), true);
            }
        }
    }

    private static void classes() {
        CHECK.due("public and final", SwapDesk.class.getModifiers(), Modifier.PUBLIC | Modifier.FINAL);
        for (Class<?> inside : SwapDesk.class.getDeclaredClasses()) {
            CHECK.due(inside + " is static", Modifier.isStatic(inside.getModifiers()), true);
            CHECK.due(inside + " is public or protected",
                    (inside.getModifiers() & (Modifier.PUBLIC | Modifier.PROTECTED)) != 0, false);
        }
    }
}
