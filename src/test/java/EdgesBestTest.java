/** Boundary cases of promises 16 to 19: ROWS of a SIDE, and the BEST ROW. */
public final class EdgesBestTest {
    private static final String T = "towns vow 1 month 0 wide 1 turn 0";
    private static final int[] NO_SIDES = {-1, 2, -2, Edges.MOST, Edges.LEAST};

    private static String people(String home, String... kinds) {
        StringBuilder b = new StringBuilder();
        for (int i = 0; i < kinds.length; i++) {
            b.append(";person ").append("klmnopqrst".charAt(i)).append(' ').append(kinds[i]).append(" of ").append(home)
                    .append(" walks 1 kin 0");
        }
        return b.toString();
    }

    /** So many plain people of the left one, house a; on the right c with so many beds, d with so many. */
    private static String left(int count, int bedsC, int bedsD) {
        String[] kinds = new String[count];
        java.util.Arrays.fill(kinds, "plain");
        return T + ";house a left beds 1;house c right beds " + bedsC + (bedsD > 0 ? ";house d right beds " + bedsD : "")
                + people("a", kinds);
    }

    private static void rowDue(Check c, OtherTown x, int... beds) {
        for (int p = 0; p < beds.length; p++) {
            int person = p;
            c.granted(x, beds[p], "best " + p, () -> x.best(person));
        }
    }

    // ---- promise 16: rows

    static void promise16_aSideWithoutPeopleHasOne(Check c) {
        OtherTown x = Check.town(left(2, 1, 0));
        c.granted(x, 1, "right", () -> x.rows(1));
    }

    static void promise16_withoutBedsThereIsOne(Check c) {
        OtherTown x = Check.town(T + ";house a left beds 3" + people("a", "plain", "plain"));
        c.granted(x, 1, "left", () -> x.rows(0));
    }

    static void promise16_theMost(Check c) {
        OtherTown x = Check.town(Edges.FULL);
        // 1, 5 * 6, 10 * 30, 10 * 120, 5 * 360, 720
        c.granted(x, 4051, "left", () -> x.rows(0));
        c.granted(x, 4051, "right", () -> x.rows(1));
    }

    static void promise16_theOtherSidesPeopleAreAside(Check c) {
        OtherTown x = Check.lie(Edges.FULL + Edges.FULL_FOES, 5, 6, 6, 7, 7, 8, 8, 9, 9, 10);
        c.granted(x, 4051, "foes in all houses, but of the other side", () -> x.rows(0));
    }

    static void promise16_tonightIsAside(Check c) {
        OtherTown x = Check.lie(left(2, 1, 0), 0, 0, 1, 0);
        c.granted(x, 3, "both at home", () -> x.rows(0));
        x.lays(0, 1);
        c.granted(x, 3, "one in the bed", () -> x.rows(0));
    }

    static void promise16_whoIsIllIsInTheChurch(Check c) {
        OtherTown x = Check.town(Edges.FULL + ";ill 100");
        x.night();
        c.granted(x, 1, "all ill", () -> x.rows(0));
    }

    static void promise16_whatWasSleptInThisMonthIsLeftOut(Check c) {
        OtherTown x = Check.lie(left(1, 2, 0).replace("month 0", "month 1"), 0, 1);
        c.granted(x, 3, "at first", () -> x.rows(0));
        x.night();
        c.granted(x, 2, "the bed of last night", () -> x.rows(0));
        x.lays(0, 2);
        x.night();
        c.granted(x, 2, "the other one", () -> x.rows(0));
        x.lays(0, -2);
        x.night();
        c.granted(x, 3, "none", () -> x.rows(0));
    }

    static void promise16_aMinderMayHaveTheGreaterNumber(Check c) {
        OtherTown x = Check.town(T + ";house a left beds 1;house c right beds 2" + people("a", "child", "plain"));
        // the child in the church: 3; with the other: 2
        c.granted(x, 5, "child first", () -> x.rows(0));
        OtherTown y = Check.town(T + ";house a left beds 1;house c right beds 2" + people("a", "plain", "child"));
        c.granted(y, 5, "child last", () -> y.rows(0));
    }

    static void promise16_isAskedAheadOfAndBehindTheBestRow(Check c) {
        OtherTown x = Check.town(left(2, 2, 1));
        c.granted(x, 13, "ahead", () -> x.rows(0));
        c.granted(x, 0, "bestChurch", () -> x.bestChurch(0));
        c.granted(x, 13, "behind", () -> x.rows(0));
        OtherTown y = Check.town(left(2, 2, 1));
        c.granted(y, 1, "best", () -> y.best(0));
        c.granted(y, 13, "behind", () -> y.rows(0));
        c.granted(y, 2, "best again", () -> y.best(1));
    }

    static void promise16_foesWhoAreNotTheFirst(Check c) {
        OtherTown x = Check.town(left(3, 2, 0) + ";foes l m");
        // none 1, one 3 * 2, two of them 2 pairs in 2 ways
        c.granted(x, 1 + 6 + 4, "foes l m", () -> x.rows(0));
        OtherTown y = Check.town(left(3, 2, 0).replace("l plain", "l snorer").replace("m plain", "m light"));
        c.granted(y, 1 + 6 + 4, "a snorer and a light one", () -> y.rows(0));
    }

    static void promise16_aChildAmongFive(Check c) {
        // one house of two beds: of the four others none 1, one 4 * 2, two 6 * 2; the child by one of them 4 * 2
        String five = T + ";house a left beds 1;house c right beds 2";
        for (int at = 0; at < 5; at++) {
            String[] kinds = {"plain", "plain", "plain", "plain", "plain"};
            kinds[at] = "child";
            OtherTown x = Check.town(five + people("a", kinds));
            c.granted(x, 1 + 8 + 12 + 8, "child " + at, () -> x.rows(0));
        }
    }

    static void promise16_aMinderNeedNotBeTheLast(Check c) {
        String text = T + ";house a left beds 1;house c right beds 2;person k child of a walks 1 kin 1"
                + ";person l plain of a walks 1 kin 1;person m plain of a walks 1 kin 2";
        // without the child 1 + 4 + 2, with l and the child 2
        OtherTown x = Check.town(text);
        c.granted(x, 7 + 2, "l minds", () -> x.rows(0));
        c.granted(x, 1, "best", () -> x.best(0));
    }

    static void promise16_onlyAChildMustBeMinded(Check c) {
        OtherTown x = Check.town(T + ";house a left beds 1;house c right beds 1" + people("a", "light"));
        c.granted(x, 2, "a light one alone", () -> x.rows(0));
        c.granted(x, 1, "his best", () -> x.best(0));
        OtherTown y = Check.town(T + ";house a left beds 1;house c right beds 1" + people("a", "child"));
        c.granted(y, 1, "a child alone", () -> y.rows(0));
        c.granted(y, -2, "its best", () -> y.best(0));
    }

    static void promise16_thereAreTwoSides(Check c) {
        OtherTown x = Check.town(left(1, 1, 0));
        for (int side : NO_SIDES) {
            c.refused(x, 1, "side " + side, () -> x.rows(side));
        }
    }

    // ---- promise 17: best

    static void promise17_fewestInTheChurchAheadOfWorth(Check c) {
        // l and m are foes, so one of them must be in c: k has to leave what he wants
        OtherTown x = Check.town(left(3, 1, 2) + ";foes l m;wants k c 9");
        rowDue(c, x, 2, 1, 3);
    }

    static void promise17_fewestInTheChurchAheadOfTurns(Check c) {
        // k has a TURN, and could keep both others in the church by lying in c
        OtherTown x = Check.lie(left(3, 2, 0) + ";foes k l;foes k m", 1, 1, 2, 2);
        x.night();
        c.due("turns of k", x.turnsOf(0), 1);
        rowDue(c, x, -2, 1, 2);
    }

    static void promise17_fewestTurnsAheadOfWorth(Check c) {
        OtherTown x = Check.lie(left(2, 1, 0) + ";wants k c 9", 0, 1);
        rowDue(c, x, 1, -2);
        x.night();
        rowDue(c, x, -2, 1);
    }

    static void promise17_greatestWorthAheadOfTheOrder(Check c) {
        OtherTown x = Check.town(left(2, 1, 0) + ";wants l c 1");
        rowDue(c, x, -2, 1);
        OtherTown y = Check.town(left(2, 1, 1) + ";wants k d 1");
        rowDue(c, y, 2, 1);
    }

    static void promise17_worthIsOfAllTogether(Check c) {
        OtherTown x = Check.town(left(2, 1, 1) + ";wants k c 5;wants k d 4;wants l c 3;wants l d 1");
        // 5 and 1, or 4 and 3
        rowDue(c, x, 2, 1);
    }

    static void promise17_ofLikeOnesTheLeastBedFirst(Check c) {
        rowDue(c, Check.town(left(3, 3, 3)), 1, 2, 3);
        OtherTown x = Check.town(left(2, 1, 1) + ";wants k c 2;wants k d 2");
        rowDue(c, x, 1, 2);
    }

    static void promise17_isOfHisOwnSide(Check c) {
        rowDue(c, Check.town(Edges.FULL), 6, 7, 8, 9, 10, 0, 1, 2, 3, 4);
    }

    static void promise17_theChurchBehindAllBeds(Check c) {
        rowDue(c, Check.town(left(5, 2, 1)), 1, 2, 3, -2, -2);
    }

    static void promise17_aChildLiesWhereItIsMinded(Check c) {
        String one = T + ";house a left beds 1;house c right beds 1;house d right beds 2";
        rowDue(c, Check.town(one + people("a", "child", "plain")), 2, 3);
        rowDue(c, Check.town(one + people("a", "plain", "child")), 2, 3);
        rowDue(c, Check.town(one + people("a", "child", "plain", "plain")), 2, 1, 3);
        rowDue(c, Check.town(one + people("a", "child", "child", "plain")), 2, -2, 3);
    }

    static void promise17_bed0IsABed(Check c) {
        OtherTown x = Check.town(T + ";house a left beds 1;house c right beds 1" + people("c", "plain", "plain"));
        rowDue(c, x, 0, -2);
    }

    static void promise17_bed0MayBeTheOneThatIsWanted(Check c) {
        OtherTown x = Check.town(T + ";house a left beds 1;house b left beds 1;house c right beds 1"
                + people("c", "plain", "plain") + ";wants l a 5");
        rowDue(c, x, 1, 0);
    }

    static void promise17_whoMustBeInTheChurchHindersNoBetterRow(Check c) {
        // SEED 0: 74, 24, 52: l alone is ill; k wants d, which isn't the first
        OtherTown x = Check.town(left(3, 1, 1) + ";wants k d 5;ill 25");
        x.night();
        c.due("l is ill", x.person(1, 6), 1);
        rowDue(c, x, 2, -2, 1);
        // m is a child without kin; of k and l one must be in the church, l has the more TURNS
        OtherTown y = Check.lie(left(3, 1, 0).replace("m plain of a walks 1 kin 0", "m child of a walks 1 kin 1"), 0, 1);
        y.night();
        rowDue(c, y, -2, 1, -2);
        y.lays(0, -2);
        y.lays(1, 1);
        y.night();
        y.night();
        c.due("TURNS", y.turnsOf(0) * 10 + y.turnsOf(1), 21);
        rowDue(c, y, 1, -2, -2);
    }

    static void promise17_allInTheChurchIsMinus2(Check c) {
        rowDue(c, Check.town(T + ";house a left beds 3" + people("a", "plain", "plain")), -2, -2);
        rowDue(c, Check.town(T + ";house a left beds 1;house c right beds 3" + people("a", "child", "child")), -2, -2);
    }

    static void promise17_nothingIsLaidByIt(Check c) {
        OtherTown x = Check.town(left(2, 2, 0));
        x.best(0);
        c.due("bed", x.bed(0), -2);
        c.due("acts", x.size(11), 0);
    }

    static void promise17_thereIsNobodyBeyondThem(Check c) {
        OtherTown x = Check.town(left(2, 2, 0));
        for (int p : new int[] {-1, -2, 2, Edges.MOST, Edges.LEAST}) {
            c.refused(x, 1, "best " + p, () -> x.best(p));
        }
    }

    // ---- promise 18: bestChurch

    static void promise18_fromNoneToAll(Check c) {
        OtherTown none = Check.town(Edges.FULL);
        c.granted(none, 0, "none", () -> none.bestChurch(0));
        OtherTown some = Check.town(left(5, 1, 0));
        c.granted(some, 4, "all but one", () -> some.bestChurch(0));
        OtherTown all = Check.town(Edges.FULL + ";ill 100");
        all.night();
        c.granted(all, 5, "all ill", () -> all.bestChurch(0));
        c.granted(all, 5, "all ill", () -> all.bestChurch(1));
    }

    static void promise18_withoutPeopleOrBeds(Check c) {
        OtherTown x = Check.town(T + ";house a left beds 3" + people("a", "plain", "plain"));
        c.granted(x, 2, "no beds", () -> x.bestChurch(0));
        c.granted(x, 0, "no people", () -> x.bestChurch(1));
    }

    static void promise18_thereAreTwoSides(Check c) {
        OtherTown x = Check.town(left(1, 1, 0));
        for (int side : NO_SIDES) {
            c.refused(x, 1, "side " + side, () -> x.bestChurch(side));
        }
    }

    // ---- promise 19: bestWorth

    static void promise19_from0To45(Check c) {
        OtherTown none = Check.town(left(2, 2, 0));
        c.granted(none, 0, "nothing wanted", () -> none.bestWorth(0));
        // f has three beds; k wants all houses, the others f alone
        OtherTown full = Check.town(Edges.FULL + Edges.FULL_WANTS);
        c.granted(full, 36, "four have what they want", () -> full.bestWorth(0));
        c.granted(full, 27, "three of the right have", () -> full.bestWorth(1));
        OtherTown most = Check.town(Edges.FULL + ";wants k d 9;wants l e 9;wants m e 9;wants n f 9;wants o f 9");
        c.granted(most, 45, "all have", () -> most.bestWorth(0));
    }

    static void promise19_withoutPeopleOrBeds(Check c) {
        OtherTown x = Check.town(T + ";house a left beds 3" + people("a", "plain", "plain"));
        c.granted(x, 0, "no beds", () -> x.bestWorth(0));
        c.granted(x, 0, "no people", () -> x.bestWorth(1));
    }

    static void promise19_itIsOfTheBestRowNotTheGreatest(Check c) {
        OtherTown x = Check.town(left(3, 1, 2) + ";foes l m;wants k c 9");
        c.granted(x, 0, "as fewer are in the church", () -> x.bestWorth(0));
    }

    static void promise19_thereAreTwoSides(Check c) {
        OtherTown x = Check.town(left(1, 1, 0));
        for (int side : NO_SIDES) {
            c.refused(x, 1, "side " + side, () -> x.bestWorth(side));
        }
    }

    public static void main(String[] args) {
        Edges.run(EdgesBestTest.class);
    }
}
