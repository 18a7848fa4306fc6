import java.lang.reflect.Constructor;
import java.lang.reflect.Field;
import java.lang.reflect.Method;
import java.lang.reflect.Modifier;
import java.util.Arrays;
import java.util.Set;
import java.util.TreeSet;

/** The class has the face of the document, and nothing else can be seen from outside. */
public final class FaceTest {
    private static final Set<String> METHODS = Set.of(
            "public boolean MicroTasks.store(int,int)",
            "public boolean MicroTasks.constant(int,int)",
            "public boolean MicroTasks.poke(int,int)",
            "public boolean MicroTasks.set(int,int)",
            "public void MicroTasks.port(int)",
            "public boolean MicroTasks.wake(int)",
            "public boolean MicroTasks.start(int,int)",
            "public int MicroTasks.run(int)",
            "public int MicroTasks.register(int)",
            "public int MicroTasks.peek(int)",
            "public int MicroTasks.task(int,int)",
            "public int MicroTasks.now()",
            "public int MicroTasks.out(int)",
            "public int MicroTasks.count(int)");

    public static void main(String[] args) {
        Check.due("BAD", MicroTasks.BAD, -1);
        Check.due("the class is public", Modifier.isPublic(MicroTasks.class.getModifiers()), true);
        Check.due("the class is final", Modifier.isFinal(MicroTasks.class.getModifiers()), true);
        methods();
        fieldsAndConstructors();
        Check.end();
    }

    private static void methods() {
        Set<String> seen = new TreeSet<>();
        Set<String> names = new TreeSet<>();
        for (Method m : MicroTasks.class.getDeclaredMethods()) {
            if (!Modifier.isPrivate(m.getModifiers())) {
                seen.add(m.toGenericString());
                names.add(m.getName());
            }
        }
        Check.due("the methods " + seen, seen.equals(METHODS), true);
        for (Method m : MicroTasks.class.getDeclaredMethods()) {
            if (Modifier.isPrivate(m.getModifiers())) {
                Check.due("a public name for " + m, names.contains(m.getName()), false);
            }
        }
    }

    private static void fieldsAndConstructors() {
        for (Field f : MicroTasks.class.getDeclaredFields()) {
            Check.due(f + " is private", Modifier.isPrivate(f.getModifiers()), !f.getName().equals("BAD"));
            if (Modifier.isStatic(f.getModifiers())) {
                Check.due(f + " is final", Modifier.isFinal(f.getModifiers()), true);
            }
        }
        Constructor<?>[] constructors = MicroTasks.class.getDeclaredConstructors();
        Check.due("constructors " + Arrays.toString(constructors), constructors.length, 1);
        Check.due("it takes nothing", constructors[0].getParameterCount(), 0);
        Check.due("it is public", Modifier.isPublic(constructors[0].getModifiers()), true);
    }
}
