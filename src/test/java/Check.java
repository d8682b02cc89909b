import java.util.NoSuchElementException;
import java.util.function.BooleanSupplier;
import java.util.function.IntSupplier;

/** What the project's tests share: counting what is not as due, and feeding a text. */
final class Check {
    private int calls = 0;
    private int bad = 0;
    private String test = "";

    /** From now on what is not as due is told with this name. */
    void begin(String name) {
        test = name + ": ";
    }

    void due(String what, long got, long want) {
        calls++;
        if (got != want) {
            bad++;
            if (bad <= 40) {
                System.out.println(test + what + " answered " + got + ", due is " + want);
            }
        }
    }

    void due(String what, boolean got, boolean want) {
        due(what, got ? 1L : 0L, want ? 1L : 0L);
    }

    void due(String what, String got, String want) {
        if (!got.equals(want)) {
            System.out.println(test + what + " is " + got + ", due is " + want);
        }
        due(what, got.equals(want), true);
    }

    boolean isGood() {
        return bad == 0;
    }

    void end() {
        System.out.println(bad == 0 ? calls + " answers are as due" : bad + " answers are not as due");
        if (bad != 0) {
            System.exit(1);
        }
    }

    /** A call that must be refused with a TROUBLE that was another one before. */
    void refused(OtherTown x, int trouble, String what, IntSupplier call) {
        if (trouble == 1) {
            x.towns(-1);
        } else {
            x.bed(-1);
        }
        due(what, call.getAsInt(), -1);
        due("trouble of " + what, x.trouble(), trouble);
    }

    /** What a call answered that must have been refused; then another TROUBLE, so that the next can't rest on it. */
    void no(OtherTown x, String call, int got, int trouble) {
        due(call, got, -1);
        due("trouble of " + call, x.trouble(), trouble);
        if (trouble == 1) {
            x.towns(-1);
        } else {
            x.bed(-1);
        }
    }

    void refuses(OtherTown x, int trouble, String what, BooleanSupplier call) {
        refused(x, trouble, what, () -> call.getAsBoolean() ? 1 : -1);
    }

    /** A call that must not be refused, behind one that was. */
    void granted(OtherTown x, int want, String what, IntSupplier call) {
        x.towns(-1);
        due(what, call.getAsInt(), want);
        due("trouble of " + what, x.trouble(), 0);
    }

    void grants(OtherTown x, String what, BooleanSupplier call) {
        granted(x, 1, what, () -> call.getAsBoolean() ? 1 : 0);
    }

    /** A text with a ^ at the place of its FAULT. */
    void faulty(int number, String marked) {
        int place = marked.indexOf('^');
        String text = marked.replace("^", "");
        OtherTown x = new OtherTown();
        due("towns of " + marked, tell(x, text), -1);
        due("trouble of " + marked, x.trouble(), 4);
        due("fault of " + marked, x.fault(), number);
        due("where of " + marked, x.where(), place);
        due("people behind " + marked, x.size(6), 0);
        due("tape behind " + marked, x.size(13), 0);
    }

    void good(int people, String text) {
        OtherTown x = new OtherTown();
        due("towns of " + text, tell(x, text), people);
        due("trouble of " + text, x.trouble(), 0);
        due("fault of " + text, x.fault(), 0);
        due("where of " + text, x.where(), -1);
    }

    /** The i-th in the church; -3 if it throws what it must throw then. */
    static int led(OtherTown x, int i) {
        try {
            return x.led(i);
        } catch (NoSuchElementException e) {
            return -3;
        }
    }

    /** All that ACTS, IMAGES, UNDO and THE TAPE could change, as it can be read. */
    static String all(OtherTown x) {
        StringBuilder b = new StringBuilder();
        for (int what = 0; what <= 13; what++) {
            b.append(x.size(what)).append(' ');
        }
        for (int p = 0; p < x.size(6); p++) {
            b.append('|').append(x.bed(p)).append(' ').append(x.turnsOf(p)).append(' ').append(x.slept(p)).append(' ')
                    .append(x.knows(p)).append(' ').append(x.person(p, 6));
            for (int bed = 0; bed < x.size(5); bed++) {
                b.append(' ').append(x.ago(p, bed));
            }
            for (int q = 0; q < p; q++) {
                b.append(' ').append(x.together(p, q));
            }
        }
        return b.toString();
    }

    /** The text as feeds of twenty bytes, the last filled up with blanks. */
    static int[][] feeds(String text) {
        int[][] all = new int[(text.length() + 19) / 20][5];
        for (int i = 0; i < all.length * 20; i++) {
            int c = i < text.length() ? text.charAt(i) & 255 : ' ';
            all[i / 20][i % 20 / 4] |= c << 24 - i % 4 * 8;
        }
        return all;
    }

    static void feed(OtherTown x, String text) {
        for (int[] f : feeds(text)) {
            x.feed(f[0], f[1], f[2], f[3], f[4]);
        }
    }

    static int tell(OtherTown x, String text) {
        feed(x, text);
        return x.towns(text.length());
    }

    static OtherTown town(String text) {
        OtherTown x = new OtherTown();
        int told = tell(x, text);
        if (told < 1) {
            throw new IllegalArgumentException("fault " + x.fault() + " at " + x.where() + " of: " + text);
        }
        return x;
    }

    /** Towns with people laid: person, bed, person, bed .. */
    static OtherTown lie(String text, int... laid) {
        OtherTown x = town(text);
        for (int i = 0; i < laid.length; i += 2) {
            x.lays(laid[i], laid[i + 1]);
        }
        return x;
    }
}
