import java.lang.reflect.Constructor;
import java.lang.reflect.Field;
import java.lang.reflect.Method;
import java.lang.reflect.Modifier;
import java.util.Arrays;
import java.util.Set;
import java.util.TreeSet;

/** The class has the document's face and nothing else that others can see. */
public final class FaceTest {
    private static final Set<String> DUE = new TreeSet<>(Arrays.asList(
            "public static final int InitiatorRows.NONE",
            "public InitiatorRows()",
            "public int InitiatorRows.initiator()",
            "public int InitiatorRows.cls(int,int,int)",
            "public int InitiatorRows.limit(int,int)",
            "public int InitiatorRows.window(int,int,int)",
            "public int InitiatorRows.job(int,int,int,long)",
            "public int InitiatorRows.needs(int,int)",
            "public int InitiatorRows.units(int,int)",
            "public int InitiatorRows.uses(int,int,int)",
            "public int InitiatorRows.alone(int)",
            "public int InitiatorRows.hold(int,boolean)",
            "public int InitiatorRows.next(int,long)",
            "public int InitiatorRows.end(int)",
            "public int InitiatorRows.age(long,int)",
            "public int InitiatorRows.drain(int,boolean)",
            "public int InitiatorRows.weight(int,int)",
            "public long InitiatorRows.share(int,long) throws java.lang.ArithmeticException",
            "public int InitiatorRows.order(int)",
            "public long InitiatorRows.waited(int)",
            "public int InitiatorRows.state(int)",
            "public int InitiatorRows.count(int)"));

    private static int wrong = 0;

    public static void main(String[] args) {
        Class<?> face = InitiatorRows.class;
        check(Modifier.isPublic(face.getModifiers()) && Modifier.isFinal(face.getModifiers()), "public and final");
        check(seen(face).equals(DUE), "the members that others see are " + seen(face));
        check(InitiatorRows.NONE == -1, "NONE is -1");
        for (Class<?> inside : face.getDeclaredClasses()) {
            check(Modifier.isStatic(inside.getModifiers()), inside + " is static");
            check(!Modifier.isPublic(inside.getModifiers()), inside + " is not public");
        }
        checkPrivateNames(face);
        System.out.println(wrong == 0 ? "the face is as due" : wrong + " faults of the face");
        if (wrong != 0) {
            System.exit(1);
        }
    }

    private static Set<String> seen(Class<?> face) {
        Set<String> found = new TreeSet<>();
        for (Field f : face.getDeclaredFields()) {
            if (!Modifier.isPrivate(f.getModifiers())) {
                found.add(f.toString());
            }
        }
        for (Constructor<?> c : face.getDeclaredConstructors()) {
            if (!Modifier.isPrivate(c.getModifiers())) {
                found.add(c.toString());
            }
        }
        for (Method m : face.getDeclaredMethods()) {
            if (!Modifier.isPrivate(m.getModifiers())) {
                found.add(m.toString());
            }
        }
        return found;
    }

    private static void checkPrivateNames(Class<?> face) {
        Set<String> names = new TreeSet<>();
        for (Method m : face.getMethods()) {
            names.add(m.getName());
        }
        for (Method m : face.getDeclaredMethods()) {
            check(!Modifier.isPrivate(m.getModifiers()) || !names.contains(m.getName()),
                    "private " + m.getName() + " bears a public name");
        }
    }

    private static void check(boolean holds, String what) {
        if (!holds) {
            wrong++;
            System.out.println("not so: " + what);
        }
    }
}
