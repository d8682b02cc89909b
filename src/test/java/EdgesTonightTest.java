/** Boundary cases of promises 10 to 15: TONIGHT, and each thing that may be WRONG. */
public final class EdgesTonightTest {
    private static final String T = "towns vow 1 month 0 wide 1 turn 0";
    /** Beds: a 0 1, c 2 3 4, d 5 6 7. */
    private static final String H = ";house a left beds 2;house c right beds 3;house d right beds 3";

    private static String person(String name, String kind, String home, int kin) {
        return ";person " + name + " " + kind + " of " + home + " walks 1 kin " + kin;
    }

    private static String four(int month, String k, String l, String m, String n) {
        return T.replace("month 0", "month " + month) + H + person("k", k, "a", 1) + person("l", l, "a", 1)
                + person("m", m, "a", 2) + person("n", n, "c", 1);
    }

    private static String plain(int month) {
        return four(month, "plain", "plain", "plain", "plain");
    }

    // ---- promise 10: bed

    static void promise10_theChurchIsMinus2(Check c) {
        OtherTown x = Check.lie(plain(0), 1, 2);
        c.granted(x, -2, "never laid", () -> x.bed(0));
        c.granted(x, 2, "laid", () -> x.bed(1));
        x.lays(1, -2);
        c.granted(x, -2, "laid into the church", () -> x.bed(1));
    }

    static void promise10_theFirstBedAndTheLast(Check c) {
        OtherTown x = Check.lie(Edges.FULL, 9, 0, 0, 11);
        c.granted(x, 0, "bed 0", () -> x.bed(9));
        c.granted(x, 11, "bed 11", () -> x.bed(0));
    }

    static void promise10_thereIsNobodyBeyondThem(Check c) {
        OtherTown x = Check.town(plain(0));
        for (int p : new int[] {-1, -2, 4, Edges.MOST, Edges.LEAST}) {
            c.refused(x, 1, "bed of " + p, () -> x.bed(p));
        }
    }

    // ---- promise 11: who

    static void promise11_theLeastNumberOfMany(Check c) {
        OtherTown x = Check.lie(plain(0), 2, 3, 1, 3, 3, 3);
        c.granted(x, 1, "of three", () -> x.who(3));
        x.lays(0, 3);
        c.granted(x, 0, "of four", () -> x.who(3));
        x.lays(0, 2);
        x.lays(1, 2);
        c.granted(x, 2, "of two", () -> x.who(3));
    }

    static void promise11_nobodyIsMinus2(Check c) {
        OtherTown x = Check.lie(plain(0), 0, 3);
        c.granted(x, -2, "the next bed", () -> x.who(2));
        c.granted(x, -2, "the first bed", () -> x.who(0));
        c.granted(x, -2, "the last bed", () -> x.who(7));
        x.lays(0, -2);
        c.granted(x, -2, "left again", () -> x.who(3));
    }

    static void promise11_nobodyOfTenIsMinus2(Check c) {
        OtherTown x = Check.lie(Edges.FULL, 9, 0);
        c.granted(x, 9, "the last one", () -> x.who(0));
        for (int bed = 1; bed < 12; bed++) {
            int b = bed;
            c.granted(x, -2, "bed " + b, () -> x.who(b));
        }
    }

    static void promise11_theChurchIsNoBed(Check c) {
        OtherTown x = Check.town(plain(0));
        for (int bed : new int[] {-2, -1, 8, Edges.MOST, Edges.LEAST}) {
            c.refused(x, 1, "who " + bed, () -> x.who(bed));
        }
    }

    // ---- promise 12: wrong

    static void promise12_nothingIsWrongInTheChurch(Check c) {
        OtherTown x = Check.lie(four(30, "child", "snorer", "light", "plain") + ";foes k l;ill 100", 0, -2);
        x.night();
        c.due("he is ill", x.person(0, 6), 1);
        for (int person = 0; person < 4; person++) {
            int p = person;
            c.granted(x, 0, "in the church " + p, () -> x.wrong(p));
        }
    }

    static void promise12_1HisOwnSideAheadOfAll(Check c) {
        OtherTown x = Check.lie(four(30, "child", "plain", "plain", "plain") + ";foes k l;foes k m;ill 100", 2, 0, 0, 0);
        c.granted(x, 1, "his home", () -> x.wrong(0));
        c.granted(x, 1, "with a lesser number in it", () -> x.wrong(2));
        OtherTown home = Check.lie(plain(0) + ";house b left beds 1", 0, 8);
        c.granted(home, 1, "another house of his side", () -> home.wrong(0));
    }

    static void promise12_2SomebodyWithALesserNumberIsInIt(Check c) {
        OtherTown x = Check.lie(plain(30), 0, 2, 1, 2);
        c.granted(x, 0, "not with the lesser one", () -> x.wrong(0));
        c.granted(x, 2, "with the greater", () -> x.wrong(1));
        x.lays(0, 3);
        c.granted(x, 0, "the next bed", () -> x.wrong(1));
        x.lays(2, 2);
        c.granted(x, 0, "a greater number in it", () -> x.wrong(1));
        c.granted(x, 2, "he", () -> x.wrong(2));
    }

    static void promise12_2OneOfTheOtherSideCountsToo(Check c) {
        String text = T + H + person("n", "plain", "c", 1) + person("k", "plain", "a", 1);
        OtherTown x = Check.lie(text, 0, 2, 1, 2);
        c.granted(x, 2, "one who is at home in it", () -> x.wrong(1));
    }

    static void promise12_2AheadOf3(Check c) {
        OtherTown x = Check.lie(plain(30), 1, 2);
        x.night();
        c.granted(x, 3, "alone", () -> x.wrong(1));
        x.lays(0, 2);
        c.granted(x, 2, "by a lesser number", () -> x.wrong(1));
    }

    static void promise12_3NeverByAMonthOf0(Check c) {
        OtherTown x = Check.lie(plain(0), 0, 2);
        x.night();
        c.granted(x, 0, "the next night", () -> x.wrong(0));
        c.granted(x, 2, "so there is a night", x::night);
    }

    static void promise12_3InTheLastMonthNightsAndNotAhead(Check c) {
        for (int month : new int[] {1, 2, 7, 30}) {
            OtherTown x = Check.lie(plain(month), 0, 2);
            x.night();
            x.lays(0, -2);
            for (int night = 1; night <= month + 1; night++) {
                c.due("month " + month + ", ago", x.ago(0, 2), night);
                c.due("month " + month + ", wrong", x.wrongIn(0, 2), night <= month ? 3 : 0);
                x.night();
            }
        }
    }

    static void promise12_3TheLatestTimeCounts(Check c) {
        OtherTown x = Check.lie(plain(2), 0, 2);
        x.night();
        x.lays(0, -2);
        x.night();
        x.night();
        x.lays(0, 2);
        c.granted(x, 4, "again", x::night);
        c.granted(x, 3, "slept in it again", () -> x.wrong(0));
        x.lays(0, -2);
        x.night();
        c.granted(x, 3, "two nights ago", () -> x.wrongIn(0, 2));
        x.night();
        c.granted(x, 0, "three nights ago", () -> x.wrongIn(0, 2));
    }

    static void promise12_3ItIsTheBedNotTheHouseAndHisOwnSleep(Check c) {
        OtherTown x = Check.lie(plain(30), 0, 2);
        x.night();
        c.granted(x, 0, "another bed of the house", () -> x.wrongIn(0, 3));
        x.lays(0, -2);
        c.granted(x, 0, "another one in it", () -> x.wrongIn(1, 2));
        c.granted(x, 3, "he", () -> x.wrongIn(0, 2));
    }

    static void promise12_3AheadOf4(Check c) {
        OtherTown x = Check.lie(plain(30) + ";foes k l", 0, 2);
        x.night();
        x.lays(1, 3);
        c.granted(x, 3, "slept in, and a foe is there", () -> x.wrong(0));
        c.granted(x, 4, "the foe", () -> x.wrong(1));
    }

    static void promise12_4AFoeInABedOfThatHouse(Check c) {
        OtherTown x = Check.lie(plain(0) + ";foes k m", 0, 2, 2, 4);
        c.granted(x, 4, "in the first bed and the last", () -> x.wrong(0));
        c.granted(x, 4, "and the other way round", () -> x.wrong(2));
        x.lays(2, 5);
        c.granted(x, 0, "in the house behind it", () -> x.wrong(0));
        x.lays(2, -2);
        c.granted(x, 0, "in the church", () -> x.wrong(0));
        x.lays(2, 2);
        c.granted(x, 4, "in the very bed", () -> x.wrong(0));
        x.lays(1, 3);
        c.granted(x, 0, "one who is no foe", () -> x.wrong(1));
    }

    static void promise12_4AFoeOfTheOtherSide(Check c) {
        OtherTown x = Check.lie(plain(0) + ";foes n k", 0, 2, 3, 4);
        c.granted(x, 4, "one who stayed at home", () -> x.wrong(0));
        c.granted(x, 1, "he himself", () -> x.wrong(3));
    }

    static void promise12_4AheadOf5(Check c) {
        OtherTown x = Check.lie(four(0, "snorer", "light", "plain", "plain") + ";foes k m", 0, 2, 1, 3);
        c.granted(x, 5, "a light one alone", () -> x.wrong(0));
        x.lays(2, 4);
        c.granted(x, 4, "and a foe", () -> x.wrong(0));
        c.granted(x, 5, "the light one", () -> x.wrong(1));
    }

    static void promise12_4AheadOf6(Check c) {
        OtherTown x = Check.lie(four(0, "child", "plain", "plain", "plain") + ";foes k m", 0, 2, 2, 3);
        c.granted(x, 4, "a child by a foe, without kin", () -> x.wrong(0));
    }

    static void promise12_5SnorersAndLightOnes(Check c) {
        OtherTown x = Check.lie(four(0, "snorer", "light", "snorer", "light"), 0, 2, 2, 3);
        c.granted(x, 0, "two snorers", () -> x.wrong(0));
        x.lays(1, 5);
        c.granted(x, 0, "a light one in the next house", () -> x.wrong(0));
        c.granted(x, 0, "he", () -> x.wrong(1));
        x.lays(3, 6);
        c.granted(x, 0, "two light ones", () -> x.wrong(1));
        x.lays(1, 4);
        c.granted(x, 5, "the snorer", () -> x.wrong(0));
        c.granted(x, 5, "the light one", () -> x.wrong(1));
        OtherTown y = Check.lie(four(0, "snorer", "plain", "plain", "light"), 0, 2, 3, 3);
        c.granted(y, 5, "one of the other side", () -> y.wrong(0));
    }

    static void promise12_5AheadOf7(Check c) {
        OtherTown x = Check.town(four(0, "snorer", "light", "plain", "plain") + ";ill 100");
        x.night();
        x.lays(0, 2);
        c.granted(x, 7, "alone", () -> x.wrong(0));
        x.lays(1, 3);
        c.granted(x, 5, "by a light one", () -> x.wrong(0));
    }

    static void promise12_6AChildAndNoOtherOfLikeKin(Check c) {
        OtherTown x = Check.lie(four(0, "child", "plain", "plain", "child"), 0, 2);
        c.granted(x, 6, "alone", () -> x.wrong(0));
        x.lays(2, 3);
        c.granted(x, 6, "by one of another kin", () -> x.wrong(0));
        x.lays(3, 4);
        c.granted(x, 6, "by a child of like kin", () -> x.wrong(0));
        x.lays(1, 5);
        c.granted(x, 6, "kin in the next house", () -> x.wrong(0));
        x.lays(1, 3);
        c.granted(x, 0, "kin in that house", () -> x.wrong(0));
        x.lays(1, 2);
        c.granted(x, 0, "kin in the very bed", () -> x.wrong(0));
    }

    static void promise12_6KinOfTheOtherSideMindTheChildToo(Check c) {
        OtherTown x = Check.lie(four(0, "child", "plain", "plain", "plain"), 0, 2, 3, 4);
        c.granted(x, 0, "one who stayed at home", () -> x.wrong(0));
    }

    static void promise12_6ItIsHisOwnKinThatCounts(Check c) {
        // m is a child of kin 2: k and l are of kin 1, o is of his
        String text = T + H + person("k", "plain", "a", 1) + person("l", "plain", "a", 1) + person("m", "child", "a", 2)
                + person("o", "plain", "a", 2);
        OtherTown x = Check.lie(text, 0, 2, 1, 3, 2, 4);
        c.granted(x, 6, "by others", () -> x.wrong(2));
        x.lays(1, -2);
        x.lays(3, 3);
        c.granted(x, 0, "by his kin", () -> x.wrong(2));
        x.lays(0, -2);
        c.granted(x, 0, "by him alone", () -> x.wrong(2));
    }

    static void promise12_6KinOf0IsKinToo(Check c) {
        String text = T + H + person("k", "child", "a", 0) + person("l", "light", "a", 0);
        OtherTown x = Check.lie(text, 0, 2, 1, 4);
        c.granted(x, 0, "kin 0", () -> x.wrong(0));
        x.lays(1, 7);
        c.granted(x, 6, "away", () -> x.wrong(0));
    }

    static void promise12_6AheadOf7(Check c) {
        OtherTown x = Check.town(four(0, "child", "plain", "plain", "plain") + ";ill 100");
        x.night();
        x.lays(0, 2);
        c.granted(x, 6, "alone and ill", () -> x.wrong(0));
        x.lays(1, 3);
        c.granted(x, 7, "minded and ill", () -> x.wrong(0));
    }

    static void promise12_3AheadOf6And7(Check c) {
        OtherTown x = Check.lie(four(30, "child", "plain", "plain", "plain") + ";ill 100", 0, 2, 1, 3);
        x.night();
        x.lays(1, -2);
        c.granted(x, 3, "slept in, alone and ill", () -> x.wrong(0));
    }

    static void promise12_7Ill(Check c) {
        OtherTown x = Check.town(plain(0) + ";ill 100");
        x.lays(0, 2);
        c.granted(x, 0, "well", () -> x.wrong(0));
        x.night();
        c.granted(x, 7, "ill", () -> x.wrong(0));
    }

    static void promise12_thereIsNobodyBeyondThem(Check c) {
        OtherTown x = Check.town(plain(0));
        for (int p : new int[] {-1, -2, 4, Edges.MOST, Edges.LEAST}) {
            c.refused(x, 1, "wrong " + p, () -> x.wrong(p));
        }
    }

    // ---- promise 13: firstWrong

    static void promise13_isMinus2IfNothingIsWrong(Check c) {
        OtherTown x = Check.town(plain(0));
        c.granted(x, -2, "all in the church", x::firstWrong);
        x.lays(0, 2);
        x.lays(3, 0);
        c.granted(x, -2, "all well laid", x::firstWrong);
    }

    static void promise13_theFirstAndTheLast(Check c) {
        OtherTown x = Check.lie(plain(0), 3, 2);
        c.granted(x, 3, "the last one", x::firstWrong);
        x.lays(1, 0);
        c.granted(x, 1, "of two the first", x::firstWrong);
        x.lays(0, 0);
        c.granted(x, 0, "number 0", x::firstWrong);
    }

    static void promise13_isRefusedWithoutTowns(Check c) {
        OtherTown x = new OtherTown();
        c.refused(x, 1, "no TOWNS", x::firstWrong);
        Check.tell(x, plain(0) + ".");
        c.refused(x, 1, "no TOWNS by a FAULT", x::firstWrong);
    }

    // ---- promise 14: wrongIn

    static void promise14_inHisOwnBedItIsWhatIsWrong(Check c) {
        OtherTown x = Check.lie(plain(0), 0, 2, 1, 2, 2, 0);
        c.granted(x, 0, "k", () -> x.wrongIn(0, 2));
        c.granted(x, 2, "l", () -> x.wrongIn(1, 2));
        c.granted(x, 1, "m", () -> x.wrongIn(2, 0));
    }

    static void promise14_heIsNoLongerWhereHeWas(Check c) {
        OtherTown x = Check.lie(four(0, "child", "plain", "plain", "plain"), 0, 2, 1, 3);
        c.granted(x, 0, "he takes the place of none", () -> x.wrongIn(1, 4));
        c.granted(x, 2, "where another is", () -> x.wrongIn(1, 2));
        // the child doesn't mind himself in his old bed, and nobody is in the other house
        c.granted(x, 6, "away from his kin", () -> x.wrongIn(0, 5));
        c.granted(x, 0, "TONIGHT stays", () -> x.wrong(0));
        c.due("his bed", x.bed(0), 2);
    }

    static void promise14_allOthersAreAsTheyAre(Check c) {
        OtherTown x = Check.lie(plain(0) + ";foes k l", 1, 2);
        c.granted(x, 4, "the foe's house", () -> x.wrongIn(0, 4));
        c.granted(x, 0, "the other house", () -> x.wrongIn(0, 5));
        c.due("still in the church", x.bed(0), -2);
    }

    static void promise14_theFirstBedAndTheLast(Check c) {
        OtherTown x = Check.town(plain(0));
        c.granted(x, 0, "bed 0", () -> x.wrongIn(3, 0));
        c.granted(x, 1, "bed 0", () -> x.wrongIn(0, 0));
        c.granted(x, 0, "bed 7", () -> x.wrongIn(0, 7));
        c.granted(x, 1, "bed 7", () -> x.wrongIn(3, 7));
    }

    static void promise14_thereIsNoSuchPersonOrBed(Check c) {
        OtherTown x = Check.town(plain(0));
        for (int p : new int[] {-1, -2, 4, Edges.MOST, Edges.LEAST}) {
            c.refused(x, 1, "person " + p, () -> x.wrongIn(p, 2));
        }
        for (int bed : new int[] {-2, -1, 8, Edges.MOST, Edges.LEAST}) {
            c.refused(x, 1, "bed " + bed, () -> x.wrongIn(0, bed));
        }
    }

    // ---- promise 15: worth

    static void promise15_is0InTheChurchAndWhereNotWanted(Check c) {
        OtherTown x = Check.town(plain(0) + ";wants k c 4");
        c.granted(x, 0, "all in the church", () -> x.worth(0));
        x.lays(0, 5);
        c.granted(x, 0, "another house", () -> x.worth(0));
        x.lays(0, 4);
        c.granted(x, 4, "the house he wants", () -> x.worth(0));
        c.granted(x, 0, "the other SIDE", () -> x.worth(1));
    }

    static void promise15_isCountedWhateverIsWrong(Check c) {
        OtherTown x = Check.lie(plain(0) + ";foes k l;wants k c 4;wants l c 5", 0, 2, 1, 2);
        c.granted(x, 9, "foes in one bed", () -> x.worth(0));
    }

    static void promise15_theMost(Check c) {
        OtherTown x = Check.lie(Edges.FULL + Edges.FULL_WANTS, 0, 9, 1, 10, 2, 11, 3, 11, 4, 9);
        c.granted(x, 45, "five times nine", () -> x.worth(0));
        c.granted(x, 0, "the others", () -> x.worth(1));
    }

    static void promise15_theFirstBedIsABed(Check c) {
        OtherTown x = Check.lie(plain(0) + ";wants n a 7", 3, 0);
        c.granted(x, 7, "bed 0", () -> x.worth(1));
    }

    static void promise15_aSideWithoutPeopleHas0(Check c) {
        OtherTown x = Check.town(T + H + person("k", "plain", "a", 0));
        c.granted(x, 0, "right", () -> x.worth(1));
    }

    static void promise15_thereAreTwoSides(Check c) {
        OtherTown x = Check.town(plain(0));
        for (int side : new int[] {-1, 2, Edges.MOST, Edges.LEAST}) {
            c.refused(x, 1, "side " + side, () -> x.worth(side));
        }
    }

    public static void main(String[] args) {
        Edges.run(EdgesTonightTest.class);
    }
}
