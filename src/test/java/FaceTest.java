import java.lang.reflect.Constructor;
import java.lang.reflect.Field;
import java.lang.reflect.Method;
import java.lang.reflect.Modifier;
import java.util.Arrays;
import java.util.Set;
import java.util.TreeSet;

/** The face is the document's and nothing beside it can be seen from outside. */
public final class FaceTest {
    private static final String[] FACE = {
        "int feed(int, int, int, int, int)", "int net(int)", "int fault()", "int count(int)", "int router(int, int)",
        "int link(int, int)", "int seen(int, int, int)", "int hop(int, int, int)", "long sure(int, int)",
        "long missing(int, int)", "int edge(int, int, int, int)", "int diamond(int, int, int)", "int loop(int, int, int)",
        "int truth(int, int)", "int same(int, int)", "int port(int, int)", "int use(int, int)", "int cover(int)",
        "int probe(int, int, int)", "int ping(int)", "int sweep(int, int)", "int trace(int, int)", "int twins(int, int)",
        "int loss(int)", "int clear()", "int undo()", "int note(int, int, int, int)", "int fits(int, int)",
        "int look(int, int, int)", "void forget()", "int years(int, int, int)", "void image()", "boolean restore()",
    };
    private static int wrong = 0;

    public static void main(String[] args) {
        Set<String> due = new TreeSet<>(Arrays.asList(FACE));
        Set<String> names = new TreeSet<>();
        Set<String> open = new TreeSet<>();
        for (Method m : PathProber.class.getDeclaredMethods()) {
            if (!Modifier.isPrivate(m.getModifiers())) {
                String types = Arrays.toString(m.getParameterTypes()).replace("[", "(").replace("]", ")");
                open.add(m.getReturnType() + " " + m.getName() + types);
                names.add(m.getName());
                check(Modifier.isPublic(m.getModifiers()) && !Modifier.isStatic(m.getModifiers()), "method " + m);
            }
        }
        check(open.equals(due), "the methods are " + open);
        for (Field f : PathProber.class.getDeclaredFields()) {
            boolean constant = f.getName().equals("NONE");
            check(Modifier.isPrivate(f.getModifiers()) != constant, "field " + f);
            check(!Modifier.isStatic(f.getModifiers()) || Modifier.isFinal(f.getModifiers()), "static field " + f);
        }
        for (Constructor<?> c : PathProber.class.getDeclaredConstructors()) {
            check(Modifier.isPublic(c.getModifiers()) && c.getParameterCount() == 0, "constructor " + c);
        }
        check(Modifier.isFinal(PathProber.class.getModifiers()), "the class is final");
        check(PathProber.NONE == -1, "NONE is -1");
        for (Class<?> inside : PathProber.class.getDeclaredClasses()) {
            checkInside(inside, names);
        }
        System.out.println(open.size() + " methods, " + wrong + " wrong");
        if (wrong != 0) {
            System.exit(1);
        }
    }

    private static void checkInside(Class<?> inside, Set<String> names) {
        check(Modifier.isStatic(inside.getModifiers()), "class " + inside);
        for (Method m : inside.getDeclaredMethods()) {
            check(!names.contains(m.getName()), m + " bears a name of the face");
            check(m.getParameterCount() <= 7, m + " takes too much");
        }
        int fields = 0;
        for (Field f : inside.getDeclaredFields()) {
            check(!Modifier.isStatic(f.getModifiers()) || Modifier.isFinal(f.getModifiers()), "static field " + f);
            fields += Modifier.isStatic(f.getModifiers()) ? 0 : 1;
        }
        check(fields <= 20, inside + " has too many fields");
    }

    private static void check(boolean so, String what) {
        if (!so) {
            wrong++;
            System.out.println("not as due: " + what);
        }
    }
}
