import java.lang.reflect.Constructor;
import java.lang.reflect.Executable;
import java.lang.reflect.Field;
import java.lang.reflect.Method;
import java.lang.reflect.Modifier;
import java.util.Set;
import java.util.TreeSet;

/** The public face: just the members of the document, and no other that can be seen from outside. */
public final class FaceTest {
    private static final Set<String> FACE = Set.of(
        "code(int int):int throws IllegalArgumentException UnsupportedOperationException",
        "run(int boolean):int throws IllegalArgumentException UnsupportedOperationException",
        "interrupt(int int):int throws IndexOutOfBoundsException IllegalArgumentException UnsupportedOperationException",
        "bitAt(int):int throws IndexOutOfBoundsException",
        "size():int",
        "feed(int):boolean throws IllegalArgumentException",
        "pass(int int):int throws IndexOutOfBoundsException IllegalArgumentException",
        "read(int):int throws IllegalArgumentException",
        "readRun(int):int throws IllegalArgumentException",
        "readInterrupt(int):int throws IndexOutOfBoundsException",
        "wasEnded():boolean",
        "waiting():int",
        "map(int boolean):int throws IllegalArgumentException",
        "unmap(int boolean):int throws IllegalArgumentException",
        "step(boolean):int",
        "state(boolean int int):int throws IndexOutOfBoundsException IllegalArgumentException",
        "told(int):int",
        "clear():void");

    public static void main(String[] args) {
        Check.same("WAITS", LineGolomb.WAITS, -1);
        Check.same("NO_CODE", LineGolomb.NO_CODE, -2);
        Check.same("NO_ERROR", LineGolomb.NO_ERROR, 2147483647);
        Check.same("final", Modifier.isFinal(LineGolomb.class.getModifiers()), true);
        methods();
        fields();
        nested();
        Check.end("FaceTest");
    }

    private static void methods() {
        Set<String> seen = new TreeSet<>();
        Set<String> names = new TreeSet<>();
        for (Method m : LineGolomb.class.getDeclaredMethods()) {
            if (Modifier.isPublic(m.getModifiers())) {
                seen.add(m.getName() + parameters(m) + ":" + m.getReturnType() + thrown(m));
                names.add(m.getName());
            }
        }
        Check.same("methods", seen, new TreeSet<>(FACE));
        for (Method m : LineGolomb.class.getDeclaredMethods()) {
            boolean isPrivate = Modifier.isPrivate(m.getModifiers());
            Check.same(m.getName() + " is of the face or private", isPrivate, !names.contains(m.getName()));
        }
        Constructor<?>[] made = LineGolomb.class.getDeclaredConstructors();
        Check.same("constructors", made.length, 1);
        Check.same("constructor", parameters(made[0]) + Modifier.toString(made[0].getModifiers()), "(int int int)public");
    }

    private static void fields() {
        Set<String> seen = new TreeSet<>();
        for (Field f : LineGolomb.class.getDeclaredFields()) {
            boolean isStatic = Modifier.isStatic(f.getModifiers());
            Check.same(f.getName() + " does not change", !isStatic || Modifier.isFinal(f.getModifiers()), true);
            if (!Modifier.isPrivate(f.getModifiers())) {
                seen.add(Modifier.toString(f.getModifiers()) + " " + f.getType() + " " + f.getName());
            }
        }
        String kind = "public static final int ";
        Check.same("fields", seen, new TreeSet<>(Set.of(kind + "WAITS", kind + "NO_CODE", kind + "NO_ERROR")));
    }

    private static void nested() {
        for (Class<?> c : LineGolomb.class.getDeclaredClasses()) {
            int is = c.getModifiers();
            Check.same(c.getName(), Modifier.isStatic(is) && !Modifier.isPublic(is) && !Modifier.isProtected(is), true);
        }
    }

    private static String parameters(Executable e) {
        StringBuilder text = new StringBuilder("(");
        for (Class<?> c : e.getParameterTypes()) {
            text.append(text.length() > 1 ? " " : "").append(c);
        }
        return text.append(")").toString();
    }

    private static String thrown(Executable e) {
        StringBuilder text = new StringBuilder();
        for (Class<?> c : e.getExceptionTypes()) {
            text.append(text.length() == 0 ? " throws " : " ").append(c.getSimpleName());
        }
        return text.toString();
    }
}
