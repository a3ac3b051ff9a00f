import java.lang.reflect.Constructor;
import java.lang.reflect.Field;
import java.lang.reflect.Method;
import java.lang.reflect.Modifier;
import java.util.Arrays;
import java.util.Set;
import java.util.TreeSet;

/** The public face is the document's, and no other member is seen from outside. */
public final class FaceTest {
    private static final String[] METHODS = {"int feed(int)", "int end(int)", "int text()", "int fault()", "int rule(int)",
        "int one(int,int)", "int act(int)", "int alter(int,int,int)", "int slack(int)", "int plan(int)", "int cut(int)",
        "int turn(int)", "int rest(int)", "int runs(int)", "int ahead(int)", "int round()", "int order(int,int)",
        "int await(int,int)", "int hands(int)", "int clean(int)", "int trade(int)", "int loose()", "long mean(int,int)",
        "long luck(int,int,int)", "int see(int,int)", "int forget(int)", "int counts(int,int)", "int slacks()",
        "int look(int,int)", "int drift(int,int,int)", "int keep(int)", "int back(int)", "int sheet(int,int,int)",
        "int lay(int,int,int)", "int read(int,int,int,int)", "int torn()", "int count(int)"};

    private FaceTest() {
    }

    public static void main(String[] args) {
        Set<String> found = new TreeSet<>();
        for (Method m : HandLock.class.getDeclaredMethods()) {
            if (!Modifier.isPrivate(m.getModifiers()) && !m.isSynthetic()) {
                found.add((Modifier.isPublic(m.getModifiers()) ? "" : "not public ") + (Modifier.isStatic(m.getModifiers()) ? "static " : "")
                    + m.getReturnType() + " " + m.getName() + Arrays.toString(m.getParameterTypes()).replace(", ", ",").replace('[', '(').replace(']', ')'));
            }
        }
        Due.row("methods", found.toString(), new TreeSet<>(Arrays.asList(METHODS)).toString());
        Set<String> fields = new TreeSet<>();
        for (Field f : HandLock.class.getDeclaredFields()) {
            if (!Modifier.isPrivate(f.getModifiers())) {
                fields.add(Modifier.toString(f.getModifiers()) + " " + f.getType() + " " + f.getName());
            }
        }
        Due.row("fields", fields.toString(), "[public static final int BAD, public static final int FULL, "
            + "public static final int NONE, public static final int STATE]");
        Constructor<?>[] constructors = HandLock.class.getDeclaredConstructors();
        Due.due("constructors", constructors.length, 1);
        Due.row("constructor", constructors[0].toString(), "public HandLock()");
        Due.row("class", Modifier.toString(HandLock.class.getModifiers()), "public final");
        for (Class<?> inside : HandLock.class.getDeclaredClasses()) {
            Due.isTrue(inside + " is static", Modifier.isStatic(inside.getModifiers()));
            Due.isTrue(inside + " is not public", !Modifier.isPublic(inside.getModifiers()) && !Modifier.isProtected(inside.getModifiers()));
        }
        Due.due("BAD", HandLock.BAD, -1);
        Due.due("STATE", HandLock.STATE, -2);
        Due.due("FULL", HandLock.FULL, -3);
        Due.due("NONE", HandLock.NONE, -4);
        Due.finish();
    }
}
