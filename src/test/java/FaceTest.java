import java.lang.reflect.Constructor;
import java.lang.reflect.Field;
import java.lang.reflect.Method;
import java.lang.reflect.Modifier;
import java.util.Arrays;
import java.util.Comparator;
import java.util.Random;
import java.util.Set;
import java.util.TreeSet;

/** The face is the document's and no more, and no arguments in any state make a call throw. */
public final class FaceTest {
    private static final String[] FACE = {
        "public final class PolledHouses",
        "public static final int BAD",
        "public static final int NO",
        "public static final int FULL",
        "public PolledHouses()",
        "public int deposit(int, int, int)",
        "public int blocks(int)",
        "public int at(int, int, int)",
        "public int damage(int, int, int, int)",
        "public long sum(int, int, int, long)",
        "public int poll(int, int, long)",
        "public int again(int)",
        "public int step()",
        "public int lose(int)",
        "public int twice(int)",
        "public int letters()",
        "public int letter(int, int)",
        "public boolean giveUp(int)",
        "public int result(int)",
        "public boolean close(int)",
        "public boolean open(int)",
        "public int round()",
        "public int done()",
        "public int parts()",
        "public int mends(int)",
        "public int disputes()",
    };
    private static final int[] NUMBERS = {0, 1, 2, 3, 4, 5, 6, 7, 8, 9, 12, 15, 16, 17, 23, 24, 31, 63, 64, 255,
        256, 511, 512, 513, -1, -2, -8, Integer.MIN_VALUE, Integer.MIN_VALUE + 1, Integer.MAX_VALUE};

    private static final Due due = new Due();

    public static void main(String[] args) throws Exception {
        constants();
        members();
        nothingThrows();
        pollsBeyondAllCalls();
        due.end();
    }

    private static void constants() {
        due.is("BAD", PolledHouses.BAD, -1);
        due.is("NO", PolledHouses.NO, -2);
        due.is("FULL", PolledHouses.FULL, -3);
    }

    private static void members() {
        Class<?> c = PolledHouses.class;
        Set<String> found = new TreeSet<>();
        found.add(Modifier.toString(c.getModifiers()) + " class " + c.getName());
        for (Field f : c.getDeclaredFields()) {
            addUnlessPrivate(found, f.getModifiers(), f.getType() + " " + f.getName());
        }
        for (Constructor<?> k : c.getDeclaredConstructors()) {
            addUnlessPrivate(found, k.getModifiers(), c.getName() + types(k.getParameterTypes()));
        }
        Set<String> publicNames = new TreeSet<>();
        for (Method m : c.getDeclaredMethods()) {
            String head = m.getReturnType() + " " + m.getName();
            addUnlessPrivate(found, m.getModifiers(), head + types(m.getParameterTypes()));
            if (Modifier.isPublic(m.getModifiers())) {
                publicNames.add(m.getName());
            }
        }
        for (Method m : c.getDeclaredMethods()) {
            if (Modifier.isPrivate(m.getModifiers()) && publicNames.contains(m.getName())) {
                due.fail("a private method bears the public name " + m.getName());
            }
        }
        Set<String> wanted = new TreeSet<>(Arrays.asList(FACE));
        if (!found.equals(wanted)) {
            due.fail("the face is " + found + ", due is " + wanted);
        }
    }

    private static void addUnlessPrivate(Set<String> found, int modifiers, String text) {
        if (!Modifier.isPrivate(modifiers)) {
            found.add(Modifier.toString(modifiers) + " " + text);
        }
    }

    private static String types(Class<?>[] types) {
        String text = Arrays.toString(types);
        return "(" + text.substring(1, text.length() - 1) + ")";
    }

    private static void nothingThrows() throws Exception {
        Method[] methods = PolledHouses.class.getDeclaredMethods();
        Arrays.sort(methods, Comparator.comparing(Method::getName));
        Random random = new Random(4711);
        for (int run = 0; run < 300; run++) {
            PolledHouses x = new PolledHouses();
            for (int call = 0; call < 2000; call++) {
                Method m = methods[random.nextInt(methods.length)];
                if (Modifier.isPublic(m.getModifiers())) {
                    call(x, m, random);
                }
            }
        }
    }

    private static void call(PolledHouses x, Method m, Random random) throws Exception {
        Object[] arguments = new Object[m.getParameterCount()];
        for (int i = 0; i < arguments.length; i++) {
            int n = random.nextBoolean() ? random.nextInt(3) : NUMBERS[random.nextInt(NUMBERS.length)];
            if (m.getParameterTypes()[i] == long.class) {
                arguments[i] = random.nextLong();
            } else {
                arguments[i] = n;
            }
        }
        try {
            m.invoke(x, arguments);
        } catch (java.lang.reflect.InvocationTargetException e) {
            due.fail(m.getName() + Arrays.toString(arguments) + " threw " + e.getCause());
        }
    }

    /** What is answered beyond 512 calls is free, but no call may throw. */
    private static void pollsBeyondAllCalls() {
        PolledHouses x = new PolledHouses();
        x.deposit(0, 1, 0);
        for (int i = 0; i < 3000; i++) {
            int p = x.poll(0, 0, i);
            x.giveUp(p);
            x.again(p);
            x.result(p);
            x.step();
        }
    }
}
