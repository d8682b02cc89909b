/** Boundary cases of promises 20 to 29: what was, what is known. */
public final class EdgesPastTest {
    private static final int[] NOBODY = {-1, -2, 4, Edges.MOST, Edges.LEAST};
    private static final int[] NO_SIDES = {-1, 2, -2, Edges.MOST, Edges.LEAST};

    /** Beds: a 0 1, b 2, c 3 4, d 5. k of a, l of b, m of a, n of c; l and k are kin, m and n are not. */
    private static final String W = "towns vow 1 month 0 wide 1 turn 0;house a left beds 2;house b left beds 1"
            + ";house c right beds 2;house d right beds 1;person k plain of a walks 1 kin 1"
            + ";person l plain of b walks 1 kin 1;person m plain of a walks 1 kin 2;person n plain of c walks 1 kin 3";

    private static void nights(OtherTown x, int count) {
        for (int i = 0; i < count; i++) {
            x.night();
        }
    }

    // ---- promise 20: turnsOf

    static void promise20_from0OneMoreForEachNightInTheChurch(Check c) {
        OtherTown x = Check.lie(W, 0, 3);
        c.granted(x, 0, "at first", () -> x.turnsOf(1));
        x.night();
        c.granted(x, 1, "one", () -> x.turnsOf(1));
        c.granted(x, 0, "in a bed", () -> x.turnsOf(0));
        nights(x, 99);
        c.granted(x, 100, "a hundred", () -> x.turnsOf(1));
        c.granted(x, 0, "in a bed", () -> x.turnsOf(0));
    }

    static void promise20_aRefusedNightIsNoTurn(Check c) {
        OtherTown x = Check.lie(W, 0, 0);
        c.refused(x, 5, "night", x::night);
        c.granted(x, 0, "none", () -> x.turnsOf(1));
    }

    static void promise20_thereIsNobodyBeyondThem(Check c) {
        OtherTown x = Check.town(W);
        for (int p : NOBODY) {
            c.refused(x, 1, "turnsOf " + p, () -> x.turnsOf(p));
        }
    }

    // ---- promise 21: ago

    static void promise21_neverIsMinus2(Check c) {
        OtherTown x = Check.lie(W, 0, 3);
        c.granted(x, -2, "ahead of the NIGHT", () -> x.ago(0, 3));
        x.night();
        c.granted(x, -2, "another bed", () -> x.ago(0, 4));
        c.granted(x, -2, "another one", () -> x.ago(1, 3));
        c.granted(x, -2, "his own home", () -> x.ago(0, 0));
    }

    static void promise21_theLatestNightIs1(Check c) {
        OtherTown x = Check.lie(W, 0, 3);
        for (int i = 0; i < 3; i++) {
            x.night();
            c.granted(x, 1, "the latest", () -> x.ago(0, 3));
        }
        x.lays(0, 4);
        c.granted(x, 1, "laying is no NIGHT", () -> x.ago(0, 3));
        x.night();
        c.granted(x, 2, "one more", () -> x.ago(0, 3));
        c.granted(x, 1, "the latest", () -> x.ago(0, 4));
    }

    static void promise21_farAgo(Check c) {
        OtherTown x = Check.lie(W, 3, 2);
        x.night();
        x.lays(3, -2);
        nights(x, 200);
        c.granted(x, 201, "the first of 201", () -> x.ago(3, 2));
    }

    static void promise21_theFirstBedAndTheLast(Check c) {
        OtherTown x = Check.lie(Edges.FULL, 0, 11, 9, 0);
        x.night();
        c.granted(x, 1, "bed 11", () -> x.ago(0, 11));
        c.granted(x, 1, "bed 0", () -> x.ago(9, 0));
        c.granted(x, -2, "of another", () -> x.ago(8, 0));
        c.granted(x, -2, "of another", () -> x.ago(1, 0));
    }

    static void promise21_thereIsNoSuchPersonOrBed(Check c) {
        OtherTown x = Check.town(W);
        for (int p : NOBODY) {
            c.refused(x, 1, "person " + p, () -> x.ago(p, 0));
        }
        for (int bed : new int[] {-1, -2, 6, Edges.MOST, Edges.LEAST}) {
            c.refused(x, 1, "bed " + bed, () -> x.ago(0, bed));
        }
    }

    // ---- promise 22: slept

    static void promise22_noneAndAllOfTheOtherSide(Check c) {
        OtherTown x = Check.town(Edges.FULL);
        c.granted(x, 0, "none", () -> x.slept(0));
        int[] beds = {6, 7, 9};
        for (int bed : beds) {
            x.lays(0, bed);
            x.night();
        }
        c.granted(x, 8 + 16 + 32, "all three", () -> x.slept(0));
        c.granted(x, 0, "the others none", () -> x.slept(1));
    }

    static void promise22_twoBedsOfOneHouseAreOneHouse(Check c) {
        OtherTown x = Check.lie(W, 0, 3);
        x.night();
        x.lays(0, 4);
        x.night();
        c.granted(x, 4, "c", () -> x.slept(0));
    }

    static void promise22_layingAndHisHomeAreNone(Check c) {
        OtherTown x = Check.lie(W, 0, 3);
        c.granted(x, 0, "no NIGHT yet", () -> x.slept(0));
        x.lays(0, -2);
        x.night();
        c.granted(x, 0, "the church is none", () -> x.slept(0));
    }

    static void promise22_thereIsNobodyBeyondThem(Check c) {
        OtherTown x = Check.town(W);
        for (int p : NOBODY) {
            c.refused(x, 1, "slept " + p, () -> x.slept(p));
        }
    }

    // ---- promise 23: knows

    static void promise23_atFirstEachKnowsHisHomeAlone(Check c) {
        OtherTown x = Check.town(W);
        int[] due = {1, 2, 1, 4};
        for (int p = 0; p < 4; p++) {
            int person = p;
            c.granted(x, due[p], "knows " + p, () -> x.knows(person));
        }
        OtherTown full = Check.town(Edges.FULL);
        c.granted(full, 32, "the last house", () -> full.knows(9));
    }

    static void promise23_kinTellEachOtherInOneHouseAlone(Check c) {
        OtherTown x = Check.lie(W, 0, 3, 1, 5);
        x.night();
        c.granted(x, 1 + 4, "k in c", () -> x.knows(0));
        c.granted(x, 2 + 8, "l in d", () -> x.knows(1));
    }

    static void promise23_kinInTheChurchTellNothing(Check c) {
        OtherTown x = Check.town(W);
        x.night();
        c.granted(x, 1, "k", () -> x.knows(0));
        c.granted(x, 2, "l", () -> x.knows(1));
    }

    static void promise23_unlikeKinInOneHouseTellNothing(Check c) {
        OtherTown x = Check.lie(W, 1, 3, 2, 4);
        x.night();
        c.granted(x, 2 + 4, "l", () -> x.knows(1));
        c.granted(x, 1 + 4, "m", () -> x.knows(2));
    }

    static void promise23_thenThoseOfOneHomeAndNotTheKinAgain(Check c) {
        // k and l are kin in c; m of k's home is in d
        OtherTown x = Check.lie(W, 0, 3, 1, 4, 2, 5);
        x.night();
        c.granted(x, 1 + 2 + 4 + 8, "k has it of m", () -> x.knows(0));
        c.granted(x, 1 + 2 + 4 + 8, "m has it of k, who had it of l", () -> x.knows(2));
        c.granted(x, 1 + 2 + 4, "l has nothing of m yet", () -> x.knows(1));
        x.night();
        c.granted(x, 1 + 2 + 4 + 8, "the night behind it he has", () -> x.knows(1));
    }

    static void promise23_thoseOfOneHomeTellInTheChurchToo(Check c) {
        OtherTown x = Check.lie(W, 0, 3);
        x.night();
        c.granted(x, 1 + 4, "m in the church", () -> x.knows(2));
    }

    static void promise23_kinWhoAreNotTheFirstTell(Check c) {
        // l and m lie in c, alike in kin but unlike k; n of their kin is in the church
        String text = W.replace("of b walks 1 kin 1", "of b walks 1 kin 2").replace("of c walks 1 kin 3", "of c walks 1 kin 2");
        OtherTown x = Check.lie(text, 1, 3, 2, 4);
        x.night();
        c.granted(x, 1 + 2 + 4, "l", () -> x.knows(1));
        c.granted(x, 1 + 2 + 4, "m", () -> x.knows(2));
        c.granted(x, 1 + 2 + 4, "k, at home with m", () -> x.knows(0));
        c.granted(x, 4, "n", () -> x.knows(3));
    }

    static void promise23_kinInTheFirstBedTellToo(Check c) {
        OtherTown x = Check.lie(Edges.FULL, 5, 0, 6, 1);
        x.night();
        c.granted(x, 1 + 8 + 16, "p in bed 0", () -> x.knows(5));
        c.granted(x, 1 + 8 + 16, "q in bed 1", () -> x.knows(6));
    }

    static void promise23_allHouses(Check c) {
        OtherTown x = Check.lie(Edges.FULL, 0, 6, 2, 7, 4, 8);
        x.night();
        x.lays(4, 9);
        x.lays(2, 10);
        x.lays(0, 11);
        x.night();
        // all are kin: m and o in e, then k, m, o in f
        for (int p : new int[] {0, 1, 2, 3, 4}) {
            c.granted(x, 63, "knows " + p, () -> x.knows(p));
        }
        c.granted(x, 8, "the right: his home alone", () -> x.knows(5));
    }

    static void promise23_thereIsNobodyBeyondThem(Check c) {
        OtherTown x = Check.town(W);
        for (int p : NOBODY) {
            c.refused(x, 1, "knows " + p, () -> x.knows(p));
        }
    }

    // ---- promise 24: leaked

    static void promise24_nothingAtFirst(Check c) {
        OtherTown x = Check.town(W);
        for (int h = 0; h < 4; h++) {
            int house = h;
            c.granted(x, 0, "leaked " + h, () -> x.leaked(house));
        }
    }

    static void promise24_fromOneToFive(Check c) {
        OtherTown one = Check.lie(W, 3, 2);
        one.night();
        c.granted(one, 1, "b", () -> one.leaked(1));
        c.granted(one, 0, "a", () -> one.leaked(0));
        OtherTown x = Check.lie(Edges.FULL, 0, 9, 2, 10, 4, 11);
        x.night();
        c.granted(x, 5, "f: five of the left", () -> x.leaked(5));
        c.granted(x, 0, "a: those of its own side do not count", () -> x.leaked(0));
        c.granted(x, 0, "d", () -> x.leaked(3));
    }

    static void promise24_thereIsNoSuchHouse(Check c) {
        OtherTown x = Check.town(W);
        for (int h : new int[] {-1, -2, 4, Edges.MOST, Edges.LEAST}) {
            c.refused(x, 1, "leaked " + h, () -> x.leaked(h));
        }
    }

    // ---- promise 25: peace

    private static final String ONE = "towns vow 2 month 0 wide 1 turn 0;house a left beds 1;house c right beds 2"
            + ";house d right beds 1;house e right beds 1;person k plain of a walks 1 kin 1";

    private static void sleepIn(OtherTown x, int p, int... beds) {
        for (int bed : beds) {
            x.lays(p, bed);
            x.night();
        }
    }

    static void promise25_vowHousesOrMore(Check c) {
        OtherTown x = Check.town(ONE);
        c.granted(x, 0, "none", x::peace);
        sleepIn(x, 0, 1);
        c.granted(x, 0, "one of two", x::peace);
        sleepIn(x, 0, 2);
        c.granted(x, 0, "two beds of one", x::peace);
        sleepIn(x, 0, 3);
        c.granted(x, 1, "two", x::peace);
        sleepIn(x, 0, 4);
        c.granted(x, 1, "more", x::peace);
    }

    static void promise25_inAllIfTheyAreFewer(Check c) {
        for (int vow : new int[] {3, 4, 6}) {
            OtherTown x = Check.town(ONE.replace("vow 2", "vow " + vow));
            sleepIn(x, 0, 1, 3);
            c.granted(x, 0, "two of three, vow " + vow, x::peace);
            sleepIn(x, 0, 4);
            c.granted(x, 1, "all three, vow " + vow, x::peace);
        }
    }

    static void promise25_withoutHousesOfTheOtherSideAtOnce(Check c) {
        OtherTown x = Check.town("towns vow 6 month 0 wide 1 turn 0;house a left beds 1;house b left beds 1"
                + ";person k plain of a walks 1 kin 1");
        c.granted(x, 1, "peace", x::peace);
    }

    static void promise25_eachOneOfBothSides(Check c) {
        OtherTown x = Check.town(ONE.replace("vow 2", "vow 1") + ";person l plain of a walks 1 kin 1"
                + ";person m plain of c walks 1 kin 1");
        x.lays(0, 1);
        x.lays(1, 2);
        x.night();
        c.granted(x, 0, "one of the right lacks", x::peace);
        sleepIn(x, 2, 0);
        c.granted(x, 1, "all", x::peace);
    }

    static void promise25_eachSideHasItsOwnHousesToSleepIn(Check c) {
        // one house on the left, three on the right: k needs two, m the only one
        OtherTown x = Check.town(ONE + ";person m plain of c walks 1 kin 1");
        sleepIn(x, 1, 0);
        c.granted(x, 0, "k has none", x::peace);
        sleepIn(x, 0, 1);
        c.granted(x, 0, "k has one", x::peace);
        sleepIn(x, 0, 3);
        c.granted(x, 1, "k has two, m has all", x::peace);
    }

    static void promise25_isRefusedWithoutTowns(Check c) {
        OtherTown x = new OtherTown();
        c.refused(x, 1, "peace", x::peace);
    }

    // ---- promise 26: guests

    static void promise26_noneAndAllOfASide(Check c) {
        OtherTown x = Check.town(Edges.FULL);
        c.granted(x, 0, "none", () -> x.guests(5));
        x.lays(0, 9);
        x.lays(1, 10);
        x.lays(4, 11);
        x.night();
        c.granted(x, 1 + 2 + 16, "three", () -> x.guests(5));
        x.lays(0, -2);
        x.lays(2, 9);
        x.lays(3, 10);
        x.lays(1, -2);
        x.lays(4, -2);
        x.night();
        c.granted(x, 31, "all five", () -> x.guests(5));
        x.lays(9, 5);
        c.granted(x, 0, "laying is no sleep", () -> x.guests(2));
    }

    static void promise26_theLastOfThem(Check c) {
        OtherTown x = Check.lie(Edges.FULL, 9, 0);
        x.night();
        c.granted(x, 512, "number 9", () -> x.guests(0));
        c.granted(x, 0, "the next house", () -> x.guests(1));
    }

    static void promise26_thereIsNoSuchHouse(Check c) {
        OtherTown x = Check.town(W);
        for (int h : new int[] {-1, -2, 4, Edges.MOST, Edges.LEAST}) {
            c.refused(x, 1, "guests " + h, () -> x.guests(h));
        }
    }

    // ---- promise 27: together

    static void promise27_oneHouseAndOneNightMore(Check c) {
        OtherTown x = Check.lie(W, 0, 3, 1, 4);
        c.granted(x, 0, "no NIGHT yet", () -> x.together(0, 1));
        x.night();
        c.granted(x, 1, "one", () -> x.together(0, 1));
        c.granted(x, 1, "the other way round", () -> x.together(1, 0));
        nights(x, 40);
        c.granted(x, 41, "many", () -> x.together(0, 1));
        x.lays(1, 5);
        x.night();
        c.granted(x, 41, "in two houses", () -> x.together(0, 1));
    }

    static void promise27_theChurchIsNoHouse(Check c) {
        OtherTown x = Check.lie(W, 0, 3);
        nights(x, 3);
        c.granted(x, 0, "both in the church", () -> x.together(1, 2));
        c.granted(x, 0, "one of them", () -> x.together(0, 1));
        c.granted(x, 0, "one of each side", () -> x.together(2, 3));
    }

    static void promise27_theTwoAreUnlike(Check c) {
        OtherTown x = Check.lie(W, 0, 3);
        x.night();
        for (int person = 0; person < 4; person++) {
            int p = person;
            c.refused(x, 1, "alike " + p, () -> x.together(p, p));
        }
    }

    static void promise27_thereIsNobodyBeyondThem(Check c) {
        OtherTown x = Check.town(W);
        for (int p : NOBODY) {
            c.refused(x, 1, "first " + p, () -> x.together(p, 0));
            c.refused(x, 1, "second " + p, () -> x.together(0, p));
            c.refused(x, 1, "both " + p, () -> x.together(p, p));
        }
    }

    static void promise27_theLastTwo(Check c) {
        OtherTown x = Check.lie(Edges.FULL, 8, 0, 9, 2);
        x.night();
        c.granted(x, 1, "8 and 9", () -> x.together(9, 8));
        c.granted(x, 0, "7 and 9", () -> x.together(9, 7));
    }

    // ---- promise 28: fair

    static void promise28_mostLessLeast(Check c) {
        OtherTown x = Check.lie(W, 0, 3);
        c.granted(x, 0, "at first", () -> x.fair(0));
        x.night();
        c.granted(x, 1, "one night", () -> x.fair(0));
        c.granted(x, 0, "one person alone", () -> x.fair(1));
        nights(x, 29);
        c.granted(x, 30, "thirty nights", () -> x.fair(0));
        x.lays(0, -2);
        nights(x, 2);
        c.granted(x, 30, "all in the church", () -> x.fair(0));
    }

    static void promise28_isOfTheSideAlone(Check c) {
        OtherTown x = Check.lie(Edges.FULL, 9, 0);
        x.night();
        c.granted(x, 1, "right: the last has none", () -> x.fair(1));
        c.granted(x, 0, "left: all have one", () -> x.fair(0));
        x.lays(9, 1);
        x.lays(5, 0);
        x.night();
        c.granted(x, 2, "right: two and none", () -> x.fair(1));
        c.granted(x, 0, "left: all have two", () -> x.fair(0));
    }

    static void promise28_withoutPeople0(Check c) {
        OtherTown x = Check.town(ONE);
        x.night();
        c.granted(x, 0, "right", () -> x.fair(1));
    }

    static void promise28_thereAreTwoSides(Check c) {
        OtherTown x = Check.town(W);
        for (int side : NO_SIDES) {
            c.refused(x, 1, "side " + side, () -> x.fair(side));
        }
    }

    // ---- promise 29: swap

    static void promise29_isMinus2WithoutTwoInBeds(Check c) {
        OtherTown x = Check.town(W + ";wants k c 9;wants l d 9");
        c.granted(x, -2, "all in the church", () -> x.swap(0));
        x.lays(0, 5);
        c.granted(x, -2, "one in a bed", () -> x.swap(0));
        c.granted(x, -2, "the other side", () -> x.swap(1));
        OtherTown alone = Check.town(ONE);
        c.granted(alone, -2, "without people", () -> alone.swap(1));
    }

    static void promise29_bothAreOfTheSide(Check c) {
        // n of the right lies in d: k for him would be worth more
        OtherTown x = Check.lie(W + ";wants k d 9", 0, 3, 3, 5);
        c.granted(x, -2, "one of the other side", () -> x.swap(0));
    }

    static void promise29_likeWorthIsNotMore(Check c) {
        OtherTown x = Check.lie(W + ";wants k c 4;wants k d 4;wants l c 2;wants l d 2", 0, 3, 1, 5);
        c.granted(x, -2, "the same", () -> x.swap(0));
        OtherTown y = Check.lie(W + ";wants k d 1", 0, 3, 1, 5);
        c.granted(y, 1, "one more", () -> y.swap(0));
        OtherTown z = Check.lie(W + ";wants k c 1", 0, 3, 1, 5);
        c.granted(z, -2, "one less", () -> z.swap(0));
    }

    static void promise29_100TimesTheLesserAndTheGreater(Check c) {
        OtherTown x = Check.lie(W + ";wants k d 1", 0, 3, 1, 5);
        c.granted(x, 1, "0 and 1", () -> x.swap(0));
        OtherTown y = Check.lie(W + ";wants l d 1", 1, 3, 2, 5);
        c.granted(y, 102, "1 and 2", () -> y.swap(0));
        OtherTown z = Check.lie(Edges.FULL + ";wants s c 1", 8, 0, 9, 5);
        c.granted(z, 809, "8 and 9", () -> z.swap(1));
    }

    static void promise29_ofLikeOnesTheFirst(Check c) {
        // k and l, k and m: each brings 3
        OtherTown x = Check.lie(Edges.FULL + ";wants l d 3;wants m d 3", 0, 6, 1, 7, 2, 8);
        c.granted(x, 1, "the first", () -> x.swap(0));
        OtherTown y = Check.lie(Edges.FULL + ";wants l d 3;wants m d 4", 0, 6, 1, 7, 2, 8);
        c.granted(y, 2, "by most", () -> y.swap(0));
    }

    static void promise29_nothingMayBeWrongBehindIt(Check c) {
        OtherTown foes = Check.lie(Edges.FULL + ";wants k e 9;foes k m", 0, 6, 1, 7, 2, 8);
        c.granted(foes, 2, "k with l would lie by his foe: with m he wouldn't", () -> foes.swap(0));
        OtherTown first = Check.lie(Edges.FULL + ";wants l e 9", 0, 0, 1, 6, 2, 7);
        c.granted(first, -2, "the first of the side is at home", () -> first.swap(0));
        OtherTown third = Check.lie(Edges.FULL + ";wants k e 9", 0, 6, 1, 7, 2, 0);
        c.granted(third, -2, "one of the side is at home", () -> third.swap(0));
        OtherTown other = Check.lie(Edges.FULL + ";wants k e 9", 0, 6, 1, 7, 5, 6);
        c.granted(other, 1, "one of the other side is", () -> other.swap(0));
    }

    static void promise29_whatIsWrongMayBeMendedByIt(Check c) {
        // k and m are foes in e; k goes to d, which he wants, for l
        OtherTown x = Check.lie(Edges.FULL + ";foes k m;wants k d 2", 0, 7, 1, 6, 2, 8);
        c.due("wrong ahead of it", x.wrong(0), 4);
        c.granted(x, 1, "mended", () -> x.swap(0));
    }

    static void promise29_twoInOneBedAreNoSwap(Check c) {
        OtherTown x = Check.lie(W + ";wants k d 9;wants l d 9", 0, 5, 1, 5);
        c.granted(x, -2, "one bed", () -> x.swap(0));
    }

    static void promise29_leavesTonight(Check c) {
        OtherTown x = Check.lie(W + ";wants k d 1", 0, 3, 1, 5);
        String before = Check.all(x);
        x.swap(0);
        c.due("all", Check.all(x), before);
        OtherTown y = Check.lie(W + ";wants l d 1;wants m d 1", 0, 5, 1, 3, 2, 4);
        String all = Check.all(y);
        c.granted(y, 1, "k and l, or k and m", () -> y.swap(0));
        c.due("all", Check.all(y), all);
        OtherTown z = Check.lie(W + ";wants m c 1", 1, 3, 2, 5);
        String rest = Check.all(z);
        c.granted(z, 102, "l and m", () -> z.swap(0));
        c.due("all", Check.all(z), rest);
    }

    static void promise29_thereAreTwoSides(Check c) {
        OtherTown x = Check.town(W);
        for (int side : NO_SIDES) {
            c.refused(x, 1, "side " + side, () -> x.swap(side));
        }
    }

    public static void main(String[] args) {
        Edges.run(EdgesPastTest.class);
    }
}
