import java.lang.reflect.Constructor;
import java.lang.reflect.Field;
import java.lang.reflect.Method;
import java.lang.reflect.Modifier;
import java.util.Arrays;
import java.util.TreeSet;

/** The public face, and LANGUAGE.md's rule 1 on it. */
final class FaceTests {
    private FaceTests() {
    }

    private static final String[] FACE = {
        "public boolean LinCluster.listen(int,int,boolean) throws java.lang.IllegalArgumentException",
        "public int LinCluster.byteAt(int,int,int) throws java.lang.IllegalArgumentException",
        "public int LinCluster.checks(int) throws java.lang.IllegalArgumentException",
        "public int LinCluster.count(int) throws java.lang.IllegalArgumentException",
        "public int LinCluster.line(int) throws java.lang.IllegalArgumentException",
        "public int LinCluster.run(int) throws java.lang.IllegalArgumentException,java.lang.IllegalStateException",
        "public int LinCluster.slot(int,int)"
            + " throws java.lang.IllegalArgumentException,java.lang.IllegalStateException",
        "public int LinCluster.space(int,int) throws java.lang.IllegalArgumentException",
        "public int LinCluster.taken(int,int) throws java.lang.IllegalArgumentException",
        "public int LinCluster.told(int,int) throws java.lang.IllegalArgumentException",
        "public int LinCluster.write(int,int,int) throws java.lang.IllegalArgumentException",
        "public void LinCluster.disturb(int,int)"
            + " throws java.lang.IllegalArgumentException,java.lang.IllegalStateException",
        "public void LinCluster.frame(int,int,int,boolean)"
            + " throws java.lang.IllegalArgumentException,java.lang.IllegalStateException",
        "public void LinCluster.status(int,int,int,int) throws java.lang.IllegalArgumentException",
        "public void LinCluster.wake(int) throws java.lang.IllegalArgumentException",
    };

    static void all(Checks c) {
        c.test("the face: methods", () -> {
            TreeSet<String> due = new TreeSet<>(Arrays.asList(FACE));
            TreeSet<String> got = new TreeSet<>();
            for (Method m : LinCluster.class.getDeclaredMethods()) {
                if (!Modifier.isPrivate(m.getModifiers())) {
                    got.add(m.toString());
                }
            }
            c.equal("methods", due.toString(), got.toString());
        });
        c.test("the face: constant and constructor", () -> {
            c.equal("NONE", -1, LinCluster.NONE);
            c.equal("final", 1, Modifier.isFinal(LinCluster.class.getModifiers()) ? 1 : 0);
            for (Field f : LinCluster.class.getDeclaredFields()) {
                boolean hidden = Modifier.isPrivate(f.getModifiers());
                c.equal(f.getName() + " hidden", f.getName().equals("NONE") ? 0 : 1, hidden ? 1 : 0);
            }
            Constructor<?>[] made = LinCluster.class.getDeclaredConstructors();
            c.equal("constructors", 1, made.length);
            c.equal("its arguments", 0, made[0].getParameterCount());
        });
        c.test("the face: no private method bears a public one's name", () -> {
            TreeSet<String> open = new TreeSet<>();
            for (Method m : LinCluster.class.getMethods()) {
                open.add(m.getName());
            }
            for (Class<?> k : withThoseInside()) {
                for (Method m : k.getDeclaredMethods()) {
                    if (Modifier.isPrivate(m.getModifiers())) {
                        c.equal(k.getName() + "." + m.getName(), 0, open.contains(m.getName()) ? 1 : 0);
                    }
                }
            }
        });
        c.test("LANGUAGE.md: few classes and fields", () -> {
            Class<?>[] classes = withThoseInside();
            c.equal("at most twelve classes", 1, classes.length <= 12 ? 1 : 0);
            for (Class<?> k : classes) {
                int fields = 0;
                for (Field f : k.getDeclaredFields()) {
                    fields += Modifier.isStatic(f.getModifiers()) ? 0 : 1;
                }
                c.equal(k.getName() + " has at most twenty fields", 1, fields <= 20 ? 1 : 0);
            }
        });
    }

    private static Class<?>[] withThoseInside() {
        Class<?>[] inside = LinCluster.class.getDeclaredClasses();
        Class<?>[] both = Arrays.copyOf(inside, inside.length + 1);
        both[inside.length] = LinCluster.class;
        return both;
    }
}
