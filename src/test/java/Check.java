/** What the project's tests share: counting what is not as due, and feeding a text. */
final class Check {
    private int calls = 0;
    private int bad = 0;

    void due(String what, long got, long want) {
        calls++;
        if (got != want) {
            bad++;
            if (bad <= 40) {
                System.out.println(what + " answered " + got + ", due is " + want);
            }
        }
    }

    void due(String what, boolean got, boolean want) {
        due(what, got ? 1L : 0L, want ? 1L : 0L);
    }

    boolean isGood() {
        return bad == 0;
    }

    void end() {
        System.out.println(bad == 0 ? calls + " answers are as due" : bad + " answers are not as due");
        if (bad != 0) {
            System.exit(1);
        }
    }

    /** The text as feeds of twenty bytes, the last filled up with blanks. */
    static int[][] feeds(String text) {
        int[][] all = new int[(text.length() + 19) / 20][5];
        for (int i = 0; i < all.length * 20; i++) {
            int c = i < text.length() ? text.charAt(i) & 255 : ' ';
            all[i / 20][i % 20 / 4] |= c << 24 - i % 4 * 8;
        }
        return all;
    }

    static int tell(OtherTown x, String text) {
        for (int[] f : feeds(text)) {
            x.feed(f[0], f[1], f[2], f[3], f[4]);
        }
        return x.towns(text.length());
    }

    static OtherTown town(String text) {
        OtherTown x = new OtherTown();
        int told = tell(x, text);
        if (told < 1) {
            throw new IllegalArgumentException("fault " + x.fault() + " at " + x.where() + " of: " + text);
        }
        return x;
    }
}
