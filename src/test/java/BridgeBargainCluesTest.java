/** Promises 34 to 45: the bridge, bargains, clues. */
public final class BridgeBargainCluesTest {
    private static final Check CHECK = new Check();

    private static String bridgeTown(int wide, int turn, String... walkers) {
        StringBuilder b = new StringBuilder("towns vow 1 month 0 wide " + wide + " turn " + turn
                + ";house a left beds 3;house b right beds 3");
        for (int i = 0; i < walkers.length; i++) {
            b.append(";person ").append("klmnop".charAt(i)).append(" plain of ").append(walkers[i].charAt(0))
                    .append(" walks ").append(walkers[i].substring(1)).append(" kin 0");
        }
        return b.toString();
    }

    /** All in beds of the other side. */
    private static OtherTown walking(int wide, int turn, String... walkers) {
        OtherTown x = Check.town(bridgeTown(wide, turn, walkers));
        int left = 0;
        int right = 3;
        for (int p = 0; p < walkers.length; p++) {
            x.lays(p, walkers[p].charAt(0) == 'a' ? right++ : left++);
        }
        return x;
    }

    private static void bridgeDue(OtherTown x, int crossed, int[] over, int[] waits, int[] last) {
        CHECK.due("crossed", x.crossed(), crossed);
        for (int order = 0; order < 3; order++) {
            CHECK.due("bridge " + order, x.bridge(order, false), over[order]);
            CHECK.due("waits " + order, x.bridge(order, true), waits[order]);
            CHECK.due("lastOver " + order, x.lastOver(order), last[order]);
        }
        CHECK.due("trouble", x.trouble(), 0);
    }

    private static void bridge() {
        bridgeDue(Check.town(bridgeTown(2, 3, "a4", "b5")), 0, new int[] {0, 0, 0}, new int[] {0, 0, 0},
                new int[] {-2, -2, -2});
        OtherTown x = walking(2, 3, "a4", "a2", "a3", "b5");
        bridgeDue(x, 9, new int[] {12, 11, 10}, new int[] {9, 8, 12}, new int[] {3, 3, 1});
        // without a turn 14 minutes split into 7 and 7
        CHECK.due("crossed", walking(2, 0, "a4", "a2", "a3", "b5").crossed(), 7);
        // one lane: one turn, whatever the order
        CHECK.due("one lane", walking(1, 3, "a4", "a2", "a3", "b5").crossed(), 17);
        CHECK.due("one lane, one way", walking(1, 9, "a4", "a2", "a3").crossed(), 9);
        CHECK.due("three lanes", walking(3, 3, "a4", "a2", "a3", "b5").crossed(), 5);
        // by numbers: 0-1, then each turns: 1+2 .. 4, 4+2 .. 7
        bridgeDue(walking(1, 2, "a1", "b1", "a1"), 5, new int[] {7, 7, 7}, new int[] {9, 9, 9}, new int[] {2, 2, 2});
        // like ones are over at one time: the least number
        bridgeDue(walking(3, 2, "a4", "b4", "a4"), 4, new int[] {4, 4, 4}, new int[] {0, 0, 0}, new int[] {0, 0, 0});
        // slow first: l 0-5, m 0-5 by numbers, k goes on the first lane, l's: 5+1
        x = walking(2, 9, "a1", "a5", "b5");
        CHECK.due("the first of the lanes free soonest", x.bridge(2, false), 6);
        CHECK.due("waits", x.bridge(2, true), 5);
        CHECK.due("last", x.lastOver(2), 0);
        // the lane that is free soonest is taken though the other would need no turn
        x = walking(2, 9, "a3", "b2", "a1");
        CHECK.due("the turn counts to the wait", x.bridge(0, true), 11);
        CHECK.due("over", x.bridge(0, false), 12);
        x.lays(2, -2);
        CHECK.due("who is in the church doesn't walk", x.bridge(0, false), 3);
        // one who lies on his own side is in a bed too
        x.lays(2, 0);
        CHECK.due("in a bed", x.bridge(0, true), 11);
        CHECK.no(x, "bridge 3", x.bridge(3, false), 1);
        CHECK.no(x, "bridge -1", x.bridge(-1, true), 1);
        CHECK.no(x, "lastOver 3", x.lastOver(3), 1);
        CHECK.no(x, "lastOver -1", x.lastOver(-1), 1);
    }

    private static OtherTown keeping(String keeps) {
        return Check.town("towns vow 1 month 0 wide 1 turn 0;house a left beds 1;house b left beds 1"
                + ";person k plain of a walks 1 kin 0;keeps b " + keeps);
    }

    private static void bargainDue(String keeps, int rests, int upper, int lower) {
        OtherTown x = keeping(keeps);
        CHECK.due("rests " + keeps, x.rests(1), rests);
        CHECK.due("upper " + keeps, x.holds(1, false), upper);
        CHECK.due("lower " + keeps, x.holds(1, true), lower);
        CHECK.due("trouble", x.trouble(), 0);
    }

    private static void bargains() {
        bargainDue("3 0 5 1", 4, 1, 2);
        bargainDue("4 0 3 2", 5, 0, 1);
        bargainDue("3 2 4 1", 2, 1, 3);
        bargainDue("1 1 1 1", 7, 0, 1);
        bargainDue("1 0 5 3", 4, -2, -2);
        bargainDue("3 0 5 3", 4, -2, -2);
        bargainDue("5 0 5 9", 5, 0, 1);
        bargainDue("2 0 8 0", 6, 3, 4);
        bargainDue("0 5 9 5", 6, -2, -2);
        bargainDue("98 0 99 0", 6, 1, 99);
        OtherTown x = keeping("3 0 5 1");
        int[][] four = {
            {12, 0, 12, 12, 6},
            {20, 4, 8, 8, 12},
            {12, 3, 12, 12, 8},
            {12, 3, 12, 12, 9},
            {16, 2, 13, 9, 8},
        };
        for (int one = 0; one < 5; one++) {
            for (int other = 0; other < 5; other++) {
                CHECK.due("plays " + one + " " + other, x.plays(1, one, other, 4), four[one][other]);
            }
        }
        CHECK.due("one night", x.plays(1, 4, 1, 1), 0);
        CHECK.due("a hundred nights", x.plays(1, 1, 0, 100), 500);
        CHECK.due("a hundred nights", x.plays(1, 3, 1, 100), 99);
        CHECK.due("bestRule 1", x.bestRule(1, 1), 1);
        CHECK.due("bestRule 2", x.bestRule(1, 2), 1);
        // four nights: 42, 52, 47, 48, 48
        CHECK.due("bestRule 4", x.bestRule(1, 4), 1);
        CHECK.due("bestRule of like ones", keeping("1 1 1 1").bestRule(1, 100), 0);
        CHECK.due("bestRule, both is best", keeping("9 9 0 0").bestRule(1, 3), 0);
        // three nights: 33, 30, 36, 36, 28; four: 42, 40, 47, 49, 38
        CHECK.due("bestRule, the first such", keeping("3 0 2 2").bestRule(1, 3), 2);
        CHECK.due("bestRule, the most", keeping("3 0 2 2").bestRule(1, 4), 3);
        CHECK.no(x, "rests 2", x.rests(2), 1);
        CHECK.no(x, "rests without keeps", x.rests(0), 6);
        CHECK.no(x, "holds -1", x.holds(-1, true), 1);
        CHECK.no(x, "holds without keeps", x.holds(0, false), 6);
        CHECK.no(x, "plays 2", x.plays(2, 0, 0, 1), 1);
        CHECK.no(x, "plays rule 5", x.plays(0, 5, 0, 0), 1);
        CHECK.no(x, "plays rule -1", x.plays(1, 0, -1, 101), 1);
        CHECK.no(x, "plays without keeps", x.plays(0, 0, 0, 0), 6);
        CHECK.no(x, "plays 0 nights", x.plays(1, 0, 0, 0), 2);
        CHECK.no(x, "plays 101 nights", x.plays(1, 0, 0, 101), 2);
        CHECK.no(x, "bestRule 2", x.bestRule(2, 0), 1);
        CHECK.no(x, "bestRule without keeps", x.bestRule(0, 0), 6);
        CHECK.no(x, "bestRule 0 nights", x.bestRule(1, 0), 2);
        CHECK.no(x, "bestRule 101 nights", x.bestRule(1, 101), 2);
    }

    /** Beds: a 0, c 1 2, d 3. */
    private static final String C = "towns vow 1 month 5 wide 1 turn 0;house a left beds 1;house c right beds 2"
            + ";house d right beds 1;person k plain of a walks 1 kin 0;person l plain of a walks 1 kin 0;ill 100";

    private static void clues() {
        CHECK.due("no clues", Check.town(C).fits(0), 13);
        CHECK.due("a cold bed", Check.town(C + ";cold c 0").fits(0), 7);
        CHECK.due("a cold bed on their own side", Check.town(C + ";cold a 0").fits(0), 13);
        OtherTown x = Check.town(C + ";cold c 0;shoe k c");
        for (int again = 0; again < 2; again++) {
            CHECK.due("fits", x.fits(0), 2);
            CHECK.due("fits without people", x.fits(1), 1);
            CHECK.due("could k", x.could(0), 2);
            CHECK.due("surely k", x.surely(0), 1);
            CHECK.due("could l", x.could(1), 4);
            CHECK.due("surely l", x.surely(1), -2);
            int[][] with = {{0, 0, 2, 0, 0}, {0, 0, 0, 1, 1}};
            for (int p = 0; p < 2; p++) {
                for (int b = 0; b < 4; b++) {
                    CHECK.due("fitsWith " + p + " " + b, x.fitsWith(p, b), with[p][b]);
                }
                CHECK.due("fitsWith the church " + p, x.fitsWith(p, -2), with[p][4]);
            }
            CHECK.due("ask", x.ask(0), 3);
            CHECK.due("ask without people", x.ask(1), 0);
            // whatever was slept in, whoever is ill: the same
            x.lays(0, 2);
            x.night();
        }
        // who wants nothing but is there in two houses; the lesser number: beds 1 2 3 have 4 of 13 each
        CHECK.due("the first such", Check.town(C).ask(0), 1);
        x = Check.town(C + ";shoe l c;shoe k d");
        CHECK.due("both sure", x.fits(0), 2);
        CHECK.due("in either bed of it", x.surely(1), 1);
        CHECK.due("in the only one", x.surely(0), 2);
        CHECK.due("ask", x.ask(0), 1);
        x = Check.town(C + ";shoe k c;shoe k d");
        CHECK.due("two houses of one", x.fits(0), 0);
        CHECK.due("could without fits", x.could(0), 0);
        CHECK.due("surely without fits", x.surely(0), -2);
        CHECK.due("fitsWith without fits", x.fitsWith(1, -2), 0);
        CHECK.due("ask without fits", x.ask(0), 1);
        CHECK.due("foes", Check.town(C + ";foes k l").fits(0), 11);
        CHECK.due("a snorer and a light one", Check.town(C.replace("k plain", "k snorer").replace("l plain", "l light"))
                .fits(0), 11);
        // the child with the other in c only: 2 ways; alone the other has 3 beds or the church
        CHECK.due("a child", Check.town(C.replace("k plain", "k child")).fits(0), 6);
        x = Check.town("towns vow 1 month 0 wide 1 turn 0;house a left beds 1;person k plain of a walks 1 kin 0");
        CHECK.no(x, "ask where there are no beds", x.ask(0), 6);
        CHECK.due("ask of the other", x.ask(1), 0);
        CHECK.no(x, "ask 2", x.ask(2), 1);
        CHECK.no(x, "fits 2", x.fits(2), 1);
        CHECK.no(x, "fits -1", x.fits(-1), 1);
        CHECK.no(x, "could 1", x.could(1), 1);
        CHECK.no(x, "surely -1", x.surely(-1), 1);
        CHECK.no(x, "fitsWith 1", x.fitsWith(1, -2), 1);
        CHECK.no(x, "fitsWith bed 1", x.fitsWith(0, 1), 1);
        CHECK.no(x, "fitsWith bed -1", x.fitsWith(0, -1), 1);
    }

    public static void main(String[] args) {
        bridge();
        bargains();
        clues();
        CHECK.end();
    }
}
