import java.lang.reflect.Constructor;
import java.lang.reflect.Field;
import java.lang.reflect.Method;
import java.lang.reflect.Modifier;
import java.util.Arrays;
import java.util.List;
import java.util.TreeSet;

/** The public face, and that nothing else of the class can be seen. */
public final class FaceTest {
    public static void main(String[] args) {
        Checks c = new Checks();
        Class<?> k = CallKeepers.class;
        c.due("public final", k.getModifiers() & (Modifier.PUBLIC | Modifier.FINAL), Modifier.PUBLIC | Modifier.FINAL);
        methods(c, k);
        constants(c, k);
        Constructor<?>[] made = k.getDeclaredConstructors();
        c.due("constructors", made.length, 1);
        c.due("constructor's parameters", made[0].getParameterCount(), 0);
        c.due("constructor is public", made[0].getModifiers(), Modifier.PUBLIC);
        c.end();
    }

    private static void methods(Checks c, Class<?> k) {
        List<String> face = Arrays.asList("int keeper(int, boolean)", "int home(int)", "int set(int, int)",
            "int piece(int, int, boolean, int, int)", "int tick(int)", "int waits(int, int)", "int remembered(int)",
            "int kept(int, int)", "int take(int)", "int shape(int, int)", "int step(int)", "int bound(int, int, int)",
            "int count(int)", "long trace()");
        TreeSet<String> seen = new TreeSet<>();
        TreeSet<String> publicNames = new TreeSet<>();
        for (Method m : k.getDeclaredMethods()) {
            if (!Modifier.isPrivate(m.getModifiers())) {
                String types = Arrays.toString(m.getParameterTypes());
                seen.add(m.getReturnType() + " " + m.getName() + "(" + types.substring(1, types.length() - 1) + ")");
                publicNames.add(m.getName());
                c.due(m.getName() + " is public", m.getModifiers(), Modifier.PUBLIC);
            }
        }
        c.due("methods seen " + seen, seen.equals(new TreeSet<>(face)) ? 1 : 0, 1);
        for (Method m : k.getDeclaredMethods()) {
            if (Modifier.isPrivate(m.getModifiers())) {
                c.due("private " + m.getName() + " bears a public name", publicNames.contains(m.getName()) ? 1 : 0, 0);
            }
        }
    }

    private static void constants(Checks c, Class<?> k) {
        TreeSet<String> face = new TreeSet<>(Arrays.asList("BAD", "STATE", "FULL", "NONE", "TAKEN_IN", "WHOLE",
            "TWICE", "ODD", "LATER", "DROPPED", "MISSED"));
        TreeSet<String> seen = new TreeSet<>();
        for (Field f : k.getDeclaredFields()) {
            if (!Modifier.isPrivate(f.getModifiers())) {
                seen.add(f.getName());
                c.due(f.getName() + " is a public constant of int", f.getType() == int.class ? f.getModifiers() : 0,
                    Modifier.PUBLIC | Modifier.STATIC | Modifier.FINAL);
            }
        }
        c.due("constants seen " + seen, seen.equals(face) ? 1 : 0, 1);
        int[] values = {CallKeepers.BAD, CallKeepers.STATE, CallKeepers.FULL, CallKeepers.NONE, CallKeepers.TAKEN_IN,
            CallKeepers.WHOLE, CallKeepers.TWICE, CallKeepers.ODD, CallKeepers.LATER, CallKeepers.DROPPED,
            CallKeepers.MISSED};
        int[] due = {-1, -2, -3, -9, 1, 2, 3, 4, 5, 6, 7};
        for (int i = 0; i < due.length; i++) {
            c.due("constant " + i, values[i], due[i]);
        }
    }
}
