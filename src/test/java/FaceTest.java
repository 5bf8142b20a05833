import java.lang.reflect.Constructor;
import java.lang.reflect.Field;
import java.lang.reflect.Method;
import java.lang.reflect.Modifier;
import java.util.TreeSet;

/** The face of the class: every constant, constructor and method of the document, and no other. */
final class FaceTest {
    private static final Check C = new Check("FaceTest");
    private static final String[] DUE = {
        "int NONE",
        "MirrorBridge()",
        "int about(int)",
        "int add(int)",
        "int append(int)",
        "int balance()",
        "int balanced(int)",
        "int bestArms(int)",
        "int bestR(int)",
        "int bridge(int)",
        "int choose(int)",
        "int clearText()",
        "int enoughShunt()",
        "int errorPosition()",
        "int free()",
        "int load()",
        "int offsetAfter(int, int)",
        "int pair()",
        "int pause(int)",
        "int press(boolean)",
        "int restore(int)",
        "int runScript(int, long)",
        "int save(int)",
        "int sensitivity()",
        "int set(int, int)",
        "int simulate(long, int)",
        "int told(int, int)",
        "int undo()",
        "int value(int)",
        "int waitFor(int)",
    };

    public static void main(String[] args) {
        Class<?> face = MirrorBridge.class;
        C.due("modifiers of the class", face.getModifiers(), Modifier.PUBLIC | Modifier.FINAL);
        TreeSet<String> names = new TreeSet<>();
        for (Field f : face.getDeclaredFields()) {
            if (!Modifier.isPrivate(f.getModifiers())) {
                names.add(f.getType() + " " + f.getName());
                C.due("modifiers of " + f.getName(), f.getModifiers(),
                        Modifier.PUBLIC | Modifier.STATIC | Modifier.FINAL);
            }
        }
        for (Constructor<?> c : face.getDeclaredConstructors()) {
            names.add("MirrorBridge" + list(c.getParameterTypes()));
            C.due("modifiers of the constructor", c.getModifiers(), Modifier.PUBLIC);
        }
        TreeSet<String> shown = new TreeSet<>();
        for (Method m : face.getDeclaredMethods()) {
            if (!Modifier.isPrivate(m.getModifiers())) {
                names.add(m.getReturnType() + " " + m.getName() + list(m.getParameterTypes()));
                C.due("modifiers of " + m.getName(), m.getModifiers(), Modifier.PUBLIC);
                shown.add(m.getName());
            }
        }
        for (Method m : face.getDeclaredMethods()) {
            if (Modifier.isPrivate(m.getModifiers())) {
                C.due("a private method named " + m.getName(), shown.contains(m.getName()) ? 1 : 0, 0);
            }
        }
        for (Class<?> inside : face.getDeclaredClasses()) {
            C.due("a class inside that is private and static: " + inside.getSimpleName(),
                    inside.getModifiers() & (Modifier.PRIVATE | Modifier.STATIC),
                    Modifier.PRIVATE | Modifier.STATIC);
        }
        TreeSet<String> due = new TreeSet<>(java.util.Arrays.asList(DUE));
        C.same("the face", names.toString(), due.toString());
        C.end();
    }

    private static String list(Class<?>[] types) {
        StringBuilder s = new StringBuilder("(");
        for (int i = 0; i < types.length; i++) {
            s.append(i > 0 ? ", " : "").append(types[i]);
        }
        return s.append(')').toString();
    }
}
