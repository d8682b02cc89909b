import java.lang.reflect.InvocationTargetException;
import java.lang.reflect.Method;
import java.util.HashMap;
import java.util.Map;
import java.util.Random;

/** Random runs of calls on OtherTown and on the model of the document: all answers must be alike. */
public final class ModelTest {
    /** Each call with what its numbers mean; a call may stand more than once to come more often. */
    private static final String[] CALLS = {"fault", "where", "house h w", "person p w", "houseOf b", "wants p h", "bed p",
        "who b", "wrong p", "firstWrong", "wrongIn p b", "worth s", "rows s", "best p", "bestChurch s", "bestWorth s",
        "turnsOf p", "ago p b", "slept p", "knows p", "leaked h", "peace", "guests h", "together p p", "fair s", "swap s",
        "peaceIn", "churchIn n", "knowsIn p n", "leaksIn h", "crossed", "bridge o f", "lastOver o", "rests h", "holds h f",
        "plays h r r m", "bestRule h m", "fits s", "could p", "surely p", "fitsWith p B", "ask s", "lays p B", "lays p B",
        "lays p B", "lays p B", "laysBest s", "laysBest s", "laysBest s", "night", "night", "night", "nights n", "seed v",
        "undo", "undo", "image", "back i", "led i", "size w", "trouble"};
    private static final String SLOW = " peaceIn churchIn knowsIn leaksIn nights ";

    private final Random random = new Random(20261118L);
    private final Map<String, Method> ours = new HashMap<>();
    private final Map<String, Method> models = new HashMap<>();
    private final Check check = new Check();
    private final StringBuilder story = new StringBuilder();

    private ModelTest() {
        for (Method m : OtherTown.class.getDeclaredMethods()) {
            if (java.lang.reflect.Modifier.isPublic(m.getModifiers())) {
                ours.put(m.getName(), m);
                try {
                    models.put(m.getName(), Model.class.getMethod(m.getName(), m.getParameterTypes()));
                } catch (NoSuchMethodException e) {
                    throw new IllegalStateException(e);
                }
            }
        }
    }

    private static String call(Object on, Method m, Object[] args) {
        try {
            Object got = m.invoke(on, args);
            return String.valueOf(got);
        } catch (InvocationTargetException e) {
            return "throws." + e.getCause().getClass().getSimpleName();
        } catch (IllegalAccessException e) {
            throw new IllegalStateException(e);
        }
    }

    private boolean both(OtherTown x, Model y, String name, Object... args) {
        String got = call(x, ours.get(name), args);
        String want = call(y, models.get(name), args);
        story.append(name).append(java.util.Arrays.toString(args)).append(" = ").append(want).append('\n');
        if (!got.equals(want)) {
            int from = Math.max(story.lastIndexOf("text: "), 0);
            System.out.println(story.substring(from) + "but it answered " + got);
            check.due(name, 1, 0);
            return false;
        }
        check.due(name, 0, 0);
        return true;
    }

    private boolean tell(OtherTown x, Model y, String text) {
        story.append("text: ").append(text).append('\n');
        for (int[] f : Check.feeds(text)) {
            if (!both(x, y, "feed", f[0], f[1], f[2], f[3], f[4])) {
                return false;
            }
        }
        int n = random.nextInt(30) == 0 ? random.nextInt(940) - 20 : text.length();
        boolean good = both(x, y, "towns", n) && both(x, y, "fault") && both(x, y, "where") && both(x, y, "trouble");
        if (x.size(13) > 0) {
            good = good && both(x, y, "towns", x.size(13));
        }
        return good;
    }

    private int near(int count) {
        int odd = random.nextInt(40);
        if (odd == 0) {
            return random.nextInt();
        }
        return odd < 3 ? (odd == 1 ? -1 : count) : random.nextInt(Math.max(1, count));
    }

    private Object arg(OtherTown x, String sort) {
        return switch (sort) {
            case "p" -> near(x.size(6));
            case "h" -> near(x.size(4));
            case "b" -> near(x.size(5));
            case "B" -> random.nextInt(4) == 0 ? -2 : near(x.size(5));
            case "s" -> near(2);
            case "w" -> near(14);
            case "n" -> random.nextInt(3) > 0 ? near(5) : near(41);
            case "m" -> random.nextInt(2) > 0 ? near(8) : near(101);
            case "o", "i" -> near(3);
            case "r" -> near(5);
            case "v" -> near(65537);
            default -> random.nextBoolean();
        };
    }

    /** Lays one where nothing is wrong, so that nights come about by hand too. */
    private boolean layWell(OtherTown x, Model y) {
        for (int p = 0; p < x.size(6); p++) {
            int b = random.nextInt(Math.max(1, x.size(5)));
            if (!both(x, y, "wrongIn", p, b) || x.wrongIn(p, b) == 0 && !both(x, y, "lays", p, b)) {
                return false;
            }
        }
        return true;
    }

    private void run(int big, int calls, int slowOnes) {
        story.setLength(0);
        OtherTown x = new OtherTown();
        Model y = new Model();
        int slow = 0;
        if (random.nextInt(10) > 0 && !tell(x, y, Texts.good(random, big))) {
            return;
        }
        for (int i = 0; i < calls && check.isGood(); i++) {
            String[] parts = CALLS[random.nextInt(CALLS.length)].split(" ");
            boolean isSlow = SLOW.contains(" " + parts[0] + " ");
            if (isSlow && slow >= slowOnes) {
                continue;
            }
            slow += isSlow ? 1 : 0;
            Object[] args = new Object[parts.length - 1];
            for (int k = 0; k < args.length; k++) {
                args[k] = arg(x, parts[k + 1]);
            }
            both(x, y, parts[0], args);
            both(x, y, "trouble");
            if (random.nextInt(25) == 0) {
                layWell(x, y);
            }
            if (random.nextInt(100) == 0) {
                String text = Texts.good(random, big);
                tell(x, y, random.nextInt(3) == 0 ? text : Texts.spoil(random, text));
            }
        }
    }

    /** Faults alone: many texts on one object. */
    private void runTexts(int texts) {
        OtherTown x = new OtherTown();
        Model y = new Model();
        for (int i = 0; i < texts && check.isGood(); i++) {
            if (i % 20 == 0) {
                story.setLength(0);
                x = new OtherTown();
                y = new Model();
            }
            tell(x, y, Texts.spoil(random, Texts.good(random, i % 3)));
            both(x, y, "size", random.nextInt(14));
        }
    }

    public static void main(String[] args) {
        ModelTest t = new ModelTest();
        int times = args.length > 0 ? Integer.parseInt(args[0]) : 1;
        t.runTexts(6000 * times);
        for (int i = 0; i < 400 * times && t.check.isGood(); i++) {
            t.run(0, 300, 60);
        }
        for (int i = 0; i < 60 * times && t.check.isGood(); i++) {
            t.run(1, 200, 4);
        }
        for (int i = 0; i < 60 * times && t.check.isGood(); i++) {
            t.run(2, 150, 1);
        }
        t.check.end();
    }
}
