import java.lang.reflect.InvocationTargetException;
import java.lang.reflect.Method;
import java.lang.reflect.Modifier;
import java.util.ArrayList;
import java.util.Comparator;
import java.util.List;
import java.util.Random;

/** Any call with any numbers in any state: only led throws, and only a NoSuchElementException. */
public final class NeverThrowsTest {
    private static final int[] ODD = {0, 1, -1, -2, -3, 2, 5, 6, 9, 10, 11, 12, 13, 40, 41, 100, 101, 900, 65536, 65537,
        Integer.MAX_VALUE, Integer.MIN_VALUE, Integer.MAX_VALUE / 10, Integer.MIN_VALUE / 6, 1 << 28, -(1 << 28)};

    private final Random random = new Random(512L);
    private final Check check = new Check();
    private final List<Method> calls = new ArrayList<>();

    private NeverThrowsTest() {
        for (Method m : OtherTown.class.getDeclaredMethods()) {
            if (Modifier.isPublic(m.getModifiers()) && !m.getName().equals("feed") && !m.getName().equals("towns")) {
                calls.add(m);
            }
        }
        calls.sort(Comparator.comparing(Method::getName));
    }

    private Object arg(Class<?> type) {
        if (type == boolean.class) {
            return random.nextBoolean();
        }
        return random.nextInt(3) == 0 ? ODD[random.nextInt(ODD.length)] : random.nextInt(12);
    }

    private void call(OtherTown x, Method m) {
        Object[] args = new Object[m.getParameterCount()];
        for (int i = 0; i < args.length; i++) {
            args[i] = arg(m.getParameterTypes()[i]);
        }
        String thrown = "";
        try {
            m.invoke(x, args);
        } catch (InvocationTargetException e) {
            thrown = e.getCause().getClass().getSimpleName();
        } catch (IllegalAccessException e) {
            thrown = e.toString();
        }
        boolean fine = thrown.isEmpty() || m.getName().equals("led") && thrown.equals("NoSuchElementException");
        check.due(m.getName() + java.util.Arrays.toString(args) + " threw " + thrown + "; that", fine, true);
    }

    private void noise(OtherTown x) {
        for (int i = random.nextInt(46); i >= 0; i--) {
            x.feed(random.nextInt(), 0x746f776e, random.nextInt(), 0x3b3b3b3b, random.nextInt());
        }
        x.towns(random.nextInt(4) == 0 ? ODD[random.nextInt(ODD.length)] : x.size(13));
    }

    public static void main(String[] args) {
        NeverThrowsTest t = new NeverThrowsTest();
        for (int run = 0; run < 300; run++) {
            OtherTown x = run % 10 == 0 ? new OtherTown() : Check.town(Texts.good(t.random, run % 3));
            for (int i = 0; i < 400; i++) {
                t.call(x, t.calls.get(t.random.nextInt(t.calls.size())));
                if (t.random.nextInt(60) == 0) {
                    t.noise(x);
                }
            }
        }
        t.check.end();
    }
}
