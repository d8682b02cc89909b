/** Promises 46 to 56: acts, undoing, images, what is told. */
public final class ActsTest {
    private static final Check CHECK = new Check();

    /** Beds: a 0 1, c 2 3. */
    private static final String A = "towns vow 1 month 1 wide 1 turn 0;house a left beds 2;house c right beds 2"
            + ";person k plain of a walks 1 kin 0;person l plain of a walks 1 kin 0;person m plain of a walks 1 kin 0"
            + ";person n plain of c walks 1 kin 0;ill 30;wants l c 5";

    private static int truth(boolean b) {
        return b ? 1 : -1;
    }

    private static void laying() {
        OtherTown x = Check.town(A);
        CHECK.due("lays", x.lays(0, 2), true);
        CHECK.due("trouble", x.trouble(), 0);
        CHECK.due("bed", x.bed(0), 2);
        CHECK.due("acts", x.size(11), 1);
        CHECK.no(x, "he is there", truth(x.lays(0, 2)), 5);
        CHECK.no(x, "in the church already", truth(x.lays(1, -2)), 5);
        CHECK.no(x, "no such person", truth(x.lays(4, 2)), 1);
        CHECK.no(x, "no such person", truth(x.lays(-1, -2)), 1);
        CHECK.no(x, "no such bed", truth(x.lays(0, 4)), 1);
        CHECK.no(x, "no such bed", truth(x.lays(0, -1)), 1);
        CHECK.no(x, "no such bed", truth(x.lays(0, -3)), 1);
        CHECK.due("acts refused are none", x.size(11), 1);
        CHECK.due("whatever is wrong", x.lays(1, 2), true);
        CHECK.due("into the church", x.lays(0, -2), true);
        CHECK.due("bed", x.bed(0), -2);
        CHECK.due("the others stay", x.bed(1), 2);
        CHECK.due("laysBest", x.laysBest(0), 1);
        CHECK.due("first row", x.bed(0), 2);
        CHECK.due("first row", x.bed(1), 3);
        CHECK.due("first row", x.bed(2), -2);
        CHECK.due("the other side stays", x.bed(3), -2);
        CHECK.due("laysBest right", x.laysBest(1), 0);
        CHECK.due("right row", x.bed(3), 0);
        CHECK.due("it is an act even if nothing changes", x.laysBest(1), 0);
        CHECK.due("acts", x.size(11), 6);
        CHECK.no(x, "laysBest 2", x.laysBest(2), 1);
        CHECK.no(x, "laysBest -1", x.laysBest(-1), 1);
    }

    private static void sleeping() {
        OtherTown x = Check.town(A);
        x.lays(0, 0);
        CHECK.no(x, "something is wrong", x.night(), 5);
        CHECK.due("nothing came of it", x.size(9) + x.size(10) + x.turnsOf(1), 0);
        x.lays(0, -2);
        CHECK.due("night", x.night(), 1);
        // 74, 5624, 28652, 51790: of four only the second is below 30
        CHECK.due("seed", x.size(10), 51790);
        CHECK.due("k", x.person(0, 6), 0);
        CHECK.due("l", x.person(1, 6), 1);
        CHECK.due("n", x.person(3, 6), 0);
        CHECK.no(x, "nights 0", x.nights(0), 2);
        CHECK.no(x, "nights 41", x.nights(41), 2);
        CHECK.no(x, "seed -1", truth(x.seed(-1)), 2);
        CHECK.no(x, "seed 65537", truth(x.seed(65537)), 2);
        CHECK.due("seed", x.seed(0), true);
        CHECK.due("seed", x.size(10), 0);
        CHECK.due("seed", x.seed(65536), true);
        CHECK.due("seed", x.size(10), 65536);
        CHECK.due("seed is no act", x.size(11), 3);
        // 65536 stays; 36 is not below 30
        CHECK.due("nights", x.nights(1), 2);
        CHECK.due("l was ill, so in the church", x.bed(1), -2);
        CHECK.due("k and m", x.bed(0) * 10 + x.bed(2), 23);
        CHECK.due("nobody ill", x.person(1, 6), 0);
        // k and m may not have theirs again; l has two turns, k and m one: l and, by worth none, the least: k in 3
        CHECK.due("nights", x.nights(1), 3);
        CHECK.due("k", x.bed(0), 3);
        CHECK.due("l", x.bed(1), 2);
        CHECK.due("m", x.bed(2), -2);
        CHECK.due("many are one act", x.size(11), 5);
        CHECK.due("nights", x.nights(40), 43);
        CHECK.due("size 9", x.size(9), 43);
        CHECK.due("undone at once", x.undo(), true);
        CHECK.due("size 9", x.size(9), 3);
        CHECK.due("ago", x.ago(0, 2), 2);
    }

    private static void undoing() {
        OtherTown x = Check.town(A);
        CHECK.no(x, "nothing to undo", truth(x.undo()), 6);
        x.seed(7);
        x.lays(0, 2);
        x.seed(9);
        CHECK.due("undo", x.undo(), true);
        CHECK.due("SEED too", x.size(10), 7);
        CHECK.due("his bed", x.bed(0), -2);
        x = Check.town(A.replace(";ill 30", ""));
        for (int i = 0; i < 14; i++) {
            x.lays(0, i % 2 == 0 ? 2 : 3);
            x.night();
        }
        CHECK.due("twelve are kept", x.size(11), 12);
        int nights = x.size(9);
        for (int i = 0; i < 12; i++) {
            CHECK.due("undo " + i, x.undo(), true);
            CHECK.due("acts left", x.size(11), 11 - i);
        }
        CHECK.due("no more", x.undo(), false);
        CHECK.due("six nights less", x.size(9), nights - 6);
        // a night brings all of it back
        x = Check.town(A);
        x.lays(0, 2);
        x.lays(3, 0);
        x.night();
        x.undo();
        CHECK.due("nights", x.size(9), 0);
        CHECK.due("turns", x.turnsOf(1), 0);
        CHECK.due("ago", x.ago(0, 2), -2);
        CHECK.due("slept", x.slept(0), 0);
        CHECK.due("knows", x.knows(0), 1);
        CHECK.due("ill", x.person(1, 6), 0);
        CHECK.due("seed", x.size(10), 0);
        CHECK.due("rows", x.rows(0), 13);
        CHECK.due("tonight", x.bed(0), 2);
    }

    private static void imaging() {
        OtherTown x = Check.town(A);
        CHECK.no(x, "no image yet", truth(x.back(0)), 1);
        CHECK.due("image 0", x.image(), 0);
        x.lays(0, 2);
        x.seed(3);
        CHECK.due("image 1", x.image(), 1);
        x.nights(5);
        CHECK.due("an image is no act", x.size(11), 2);
        CHECK.due("image 2", x.image(), 2);
        CHECK.no(x, "a fourth one", x.image(), 3);
        CHECK.due("images", x.size(12), 3);
        CHECK.due("back", x.back(1), true);
        CHECK.due("nights", x.size(9), 0);
        CHECK.due("seed", x.size(10), 3);
        CHECK.due("bed", x.bed(0), 2);
        CHECK.no(x, "nothing can be undone", truth(x.undo()), 6);
        CHECK.due("all images stay", x.size(12), 3);
        CHECK.due("forward", x.back(2), true);
        CHECK.due("nights", x.size(9), 5);
        x.lays(0, 0);
        CHECK.due("undo", x.undo(), true);
        CHECK.due("an undo leaves images", x.size(12), 3);
        CHECK.due("back", x.back(0), true);
        CHECK.due("bed", x.bed(0), -2);
        CHECK.due("seed", x.size(10), 0);
        x.lays(1, 3);
        CHECK.due("an image isn't touched by what comes", x.back(0) && x.bed(1) == -2, true);
        CHECK.no(x, "image 3", truth(x.back(3)), 1);
        CHECK.no(x, "image -1", truth(x.back(-1)), 1);
    }

    private static void told() {
        OtherTown x = Check.town(A);
        for (int i = 0; i < 4; i++) {
            CHECK.due("led " + i, Check.led(x, i), i);
        }
        CHECK.due("led 4", Check.led(x, 4), -3);
        CHECK.due("led -1", Check.led(x, -1), -3);
        CHECK.due("led least", Check.led(x, Integer.MIN_VALUE), -3);
        x.lays(1, 2);
        CHECK.due("led 0", Check.led(x, 0), 0);
        CHECK.due("led 1", Check.led(x, 1), 2);
        CHECK.due("led 2", Check.led(x, 2), 3);
        CHECK.due("led 3", Check.led(x, 3), -3);
        x.bed(9);
        Check.led(x, 9);
        CHECK.due("size 14", x.size(14), -1);
        CHECK.due("size -1", x.size(-1), -1);
        CHECK.due("fault", x.fault(), 0);
        CHECK.due("where", x.where(), -1);
        CHECK.due("these leave the trouble", x.trouble(), 1);
        CHECK.due("trouble again", x.trouble(), 1);
        x.bed(0);
        CHECK.due("a call that wasn't refused", x.trouble(), 0);
    }

    public static void main(String[] args) {
        laying();
        sleeping();
        undoing();
        imaging();
        told();
        CHECK.end();
    }
}
