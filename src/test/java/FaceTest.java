import java.lang.reflect.Constructor;
import java.lang.reflect.Field;
import java.lang.reflect.Method;
import java.lang.reflect.Modifier;
import java.util.Set;
import java.util.TreeSet;

/** The public face is the document's, and nothing else can be seen of the class. */
public final class FaceTest {
    private static final String[] METHODS = {
        "write/1", "wipe/0", "fault/0", "lay/0", "person/2", "deed/2", "told/2", "can/2",
        "pass/1", "act/2", "lend/4", "sell/3", "levy/2", "undo/0",
        "behind/3", "grey/1", "best/2", "lending/0", "heap/3",
        "seen/3", "forget/0", "spent/2", "saved/3", "lasts/5", "year/3", "keep/0", "back/0", "count/1",
    };

    public static void main(String[] args) {
        Check check = new Check("face");
        Class<?> face = GreyByFriday.class;
        check.due("final", Modifier.isFinal(face.getModifiers()) ? 1 : 0, 1);
        Set<String> due = new TreeSet<>(Set.of(METHODS));
        Set<String> got = new TreeSet<>();
        Set<String> hidden = new TreeSet<>();
        for (Method m : face.getDeclaredMethods()) {
            if (Modifier.isPrivate(m.getModifiers())) {
                hidden.add(m.getName());
            } else {
                got.add(m.getName() + "/" + m.getParameterCount());
                check.due(m + " is int of ints", isPlain(m) ? 1 : 0, 1);
            }
        }
        check.due("methods", got.toString(), due.toString());
        for (Method m : face.getDeclaredMethods()) {
            if (Modifier.isPublic(m.getModifiers())) {
                check.due(m.getName() + " hidden too", hidden.contains(m.getName()) ? 1 : 0, 0);
            }
        }
        Set<String> constants = new TreeSet<>();
        for (Field f : face.getDeclaredFields()) {
            if (!Modifier.isPrivate(f.getModifiers())) {
                constants.add(f.getName());
            }
        }
        check.due("constants", constants.toString(), "[BAD, FULL, NO, NONE]");
        check.due("BAD", GreyByFriday.BAD, -1);
        check.due("NO", GreyByFriday.NO, -2);
        check.due("FULL", GreyByFriday.FULL, -3);
        check.due("NONE", GreyByFriday.NONE, -4);
        Constructor<?>[] makers = face.getDeclaredConstructors();
        check.due("constructors", makers.length, 1);
        check.due("parameters", makers[0].getParameterCount(), 0);
        check.end();
    }

    private static boolean isPlain(Method m) {
        for (Class<?> type : m.getParameterTypes()) {
            if (type != int.class) {
                return false;
            }
        }
        return m.getReturnType() == int.class && !Modifier.isStatic(m.getModifiers());
    }
}
