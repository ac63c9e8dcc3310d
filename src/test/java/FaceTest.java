import java.lang.reflect.Constructor;
import java.lang.reflect.Field;
import java.lang.reflect.Method;
import java.lang.reflect.Modifier;
import java.util.ArrayList;
import java.util.List;
import java.util.Set;
import java.util.TreeSet;

/** The face is the document's, and nothing else of the class is seen from outside. */
public final class FaceTest {
    private static final String[] FACE = {
        "sheet 3", "set 3", "copy 5", "drop 1", "feed 2", "match 0", "fault 0", "puller 3", "begin 1", "go 1", "told 3",
        "pull 1", "doing 3", "later 2", "three 2", "together 3", "stands 2", "chosen 3", "game 4", "left 6", "read 1",
        "image 1", "restore 1", "kind 2", "as 3", "ask 3", "trace 1", "count 1", "status 0",
    };

    private FaceTest() {
    }

    public static void main(String[] args) {
        Class<HeelsIn> c = HeelsIn.class;
        Due.is("public final", c.getModifiers(), Modifier.PUBLIC | Modifier.FINAL);
        methods(c);
        fields(c);
        Constructor<?>[] constructors = c.getDeclaredConstructors();
        Due.is("constructors", constructors.length, 1);
        Due.is("a public one", constructors[0].getModifiers(), Modifier.PUBLIC);
        Due.is("of nothing", constructors[0].getParameterCount(), 0);
        for (Class<?> inside : c.getDeclaredClasses()) {
            Due.is(inside.getName() + " is private, static", inside.getModifiers() & ~Modifier.FINAL,
                Modifier.PRIVATE | Modifier.STATIC);
        }
        Due.end("FaceTest");
    }

    private static void methods(Class<?> c) {
        Set<String> due = new TreeSet<>(List.of(FACE));
        Set<String> names = new TreeSet<>();
        Set<String> there = new TreeSet<>();
        List<String> inside = new ArrayList<>();
        for (Method m : c.getDeclaredMethods()) {
            if (Modifier.isPrivate(m.getModifiers())) {
                inside.add(m.getName());
            } else {
                there.add(m.getName() + " " + m.getParameterCount());
                names.add(m.getName());
                Due.is(m.getName() + " is public alone", m.getModifiers(), Modifier.PUBLIC);
                Due.is(m.getName() + " answers int", m.getReturnType() == int.class ? 1 : 0, 1);
                Class<?>[] types = m.getParameterTypes();
                for (int k = 0; k < types.length; k++) {
                    Class<?> type = m.getName().equals("feed") && k == 0 ? long.class : int.class;
                    Due.is(m.getName() + " takes numbers", types[k] == type ? 1 : 0, 1);
                }
            }
        }
        Due.is("methods are " + there, there.equals(due) ? 1 : 0, 1);
        for (Class<?> other : c.getDeclaredClasses()) {
            for (Method m : other.getDeclaredMethods()) {
                inside.add(m.getName());
            }
        }
        for (String name : inside) {
            Due.is("no method inside bears the name " + name, names.contains(name) ? 1 : 0, 0);
        }
    }

    private static void fields(Class<?> c) {
        Set<String> there = new TreeSet<>();
        for (Field f : c.getDeclaredFields()) {
            if (!Modifier.isPrivate(f.getModifiers())) {
                there.add(f.getName());
                Due.is(f.getName() + " is a constant", f.getModifiers(), Modifier.PUBLIC | Modifier.STATIC | Modifier.FINAL);
                Due.is(f.getName() + " is int", f.getType() == int.class ? 1 : 0, 1);
            } else if (Modifier.isStatic(f.getModifiers())) {
                Due.is(f.getName() + " is final", f.getModifiers() & Modifier.FINAL, Modifier.FINAL);
            }
        }
        Due.is("constants are " + there, there.equals(Set.of("NONE", "BAD", "STATE", "FULL")) ? 1 : 0, 1);
    }
}
