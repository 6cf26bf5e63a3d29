import java.lang.management.ManagementFactory;
import java.lang.reflect.Constructor;
import java.lang.reflect.Field;
import java.lang.reflect.Method;
import java.lang.reflect.Modifier;
import java.util.Arrays;
import java.util.Set;
import java.util.TreeSet;

/** The public face, the classes inside, and what a call makes. */
public final class FaceTest {
    private static final Due DUE = new Due("FaceTest");
    private static final String[] METHODS = {
        "int runner(int, int, int, int)", "int say(int)", "int wipe()", "int fault()",
        "int judge(int)", "int done()", "int behind(int, int)", "int winner(int)", "int then(int)",
        "int leads(int, int)", "long next(int)", "int where()", "int ever(int, int)",
        "long value(int, int, int, int)", "long number(int, int, int, int)", "long heap(int, int, int)",
        "int seen(int, int, boolean)", "int forget()", "int lines(int)", "int ask(int)",
        "long cross(int, int, int)", "int run(int, int, int)", "int image(int)", "int restore(int)",
        "int told(int)"};
    private static final String[] CONSTANTS = {
        "int NONE", "int UNKNOWN", "int OUTSIDE", "int STATE", "int FULL", "int NO", "long LOST"};

    public static void main(String[] args) {
        constants();
        members();
        classesInside();
        callsMakeNothing();
        DUE.end();
    }

    private static void constants() {
        DUE.is("NONE", KineticCup.NONE, -6);
        DUE.is("UNKNOWN", KineticCup.UNKNOWN, -1);
        DUE.is("OUTSIDE", KineticCup.OUTSIDE, -2);
        DUE.is("STATE", KineticCup.STATE, -3);
        DUE.is("FULL", KineticCup.FULL, -4);
        DUE.is("NO", KineticCup.NO, -5);
        DUE.is("LOST", KineticCup.LOST, -1000000000000000000L);
    }

    private static void same(String what, Set<String> got, String[] want) {
        Set<String> due = new TreeSet<>(Arrays.asList(want));
        if (!got.equals(due)) {
            System.out.println(what + ": " + got + ", due is " + due);
        }
        DUE.isTrue(what, got.equals(due));
    }

    private static void members() {
        Class<?> face = KineticCup.class;
        DUE.is("public and final", face.getModifiers(), Modifier.PUBLIC | Modifier.FINAL);
        Set<String> methods = new TreeSet<>();
        Set<String> hidden = new TreeSet<>();
        for (Method m : face.getDeclaredMethods()) {
            String parameters = Arrays.toString(m.getParameterTypes());
            String text = m.getReturnType() + " " + m.getName() + "("
                    + parameters.substring(1, parameters.length() - 1) + ")";
            if (Modifier.isPrivate(m.getModifiers())) {
                hidden.add(m.getName());
            } else {
                methods.add(text);
                DUE.is("modifiers of " + text, m.getModifiers(), Modifier.PUBLIC);
            }
        }
        same("methods", methods, METHODS);
        for (String text : METHODS) {
            String name = text.replaceAll("^\\w+ (\\w+).*", "$1");
            DUE.isTrue("no hidden method bears the name " + name, !hidden.contains(name));
        }
        Set<String> fields = new TreeSet<>();
        for (Field f : face.getDeclaredFields()) {
            if (!Modifier.isPrivate(f.getModifiers())) {
                fields.add(f.getType() + " " + f.getName());
                DUE.is("modifiers of " + f.getName(), f.getModifiers(),
                        Modifier.PUBLIC | Modifier.STATIC | Modifier.FINAL);
            }
        }
        same("constants", fields, CONSTANTS);
        Constructor<?>[] made = face.getDeclaredConstructors();
        DUE.is("constructors", made.length, 1);
        DUE.is("it is public", made[0].getModifiers(), Modifier.PUBLIC);
        DUE.is("it takes nothing", made[0].getParameterCount(), 0);
    }

    private static void classesInside() {
        Class<?>[] inside = KineticCup.class.getDeclaredClasses();
        DUE.isTrue("twelve classes at most", inside.length + 1 <= 12);
        for (Class<?> c : inside) {
            DUE.isTrue(c + " is static", Modifier.isStatic(c.getModifiers()));
            DUE.isTrue(c + " is not public", !Modifier.isPublic(c.getModifiers()));
            int fields = 0;
            for (Field f : c.getDeclaredFields()) {
                int m = f.getModifiers();
                DUE.isTrue(f + " is final if static", !Modifier.isStatic(m) || Modifier.isFinal(m));
                fields += Modifier.isStatic(m) ? 0 : 1;
            }
            DUE.isTrue(c + " has twenty fields at most", fields <= 20);
            for (Method m : c.getDeclaredMethods()) {
                for (String text : METHODS) {
                    DUE.isTrue(m + " has a name of its own", !text.contains(" " + m.getName() + "("));
                }
            }
        }
    }

    /** All rows are made in the constructor: the room that a run has is not used up by its calls. */
    private static void callsMakeNothing() {
        com.sun.management.ThreadMXBean threads =
                (com.sun.management.ThreadMXBean) ManagementFactory.getThreadMXBean();
        KineticCup[] objects = new KineticCup[20];
        for (int i = 0; i < objects.length; i++) {
            objects[i] = new KineticCup();
            Due.pad(objects[i], "e+.f-.g%h.h!.h#.........");
        }
        dearestCalls(objects[0]);
        long before = threads.getThreadAllocatedBytes(Thread.currentThread().getId());
        for (KineticCup x : objects) {
            for (int i = 0; i < 35; i++) {
                dearestCalls(x);
            }
        }
        long made = threads.getThreadAllocatedBytes(Thread.currentThread().getId()) - before;
        DUE.isTrue("bytes made by 9100 calls: " + made, made < 100000);
    }

    private static void dearestCalls(KineticCup x) {
        x.run(77, 99, 1);
        x.then(2);
        x.behind(4, 2);
        x.winner(1);
        x.judge(0);
        x.ask(0);
        x.lines(7);
        x.ever(9999, 1);
        x.heap(1, 3, 0);
        x.next(0);
        x.image(1);
        x.restore(1);
        x.runner(6, 1, 60, 4);
    }
}
