/** Boundary cases of promises 46 to 53: ACTS, SEED, UNDO, IMAGES. */
public final class EdgesActsTest {
    /** Beds: a 0, c 1 2, d 3; k and l of the left, m of the right. */
    private static final String S = Edges.SMALL;
    private static final String FREE = S.replace("month 1", "month 0");

    /** What must leave all as it was, whatever it answers. */
    private static void leaves(Check c, OtherTown x, String what, Runnable call) {
        String before = Check.all(x);
        call.run();
        c.due("all behind " + what, Check.all(x), before);
    }

    /** An object with nights behind it, an IMAGE and ACTS to undo. */
    private static OtherTown lived() {
        OtherTown x = Check.lie(S + ";ill 40", 0, 1, 2, 0);
        x.seed(11);
        x.night();
        x.image();
        x.lays(0, 3);
        return x;
    }

    // ---- promise 46: lays

    static void promise46_theFirstBedTheLastAndTheChurch(Check c) {
        OtherTown x = Check.town(S);
        c.grants(x, "bed 0", () -> x.lays(2, 0));
        c.due("bed", x.bed(2), 0);
        c.grants(x, "bed 3", () -> x.lays(0, 3));
        c.due("bed", x.bed(0), 3);
        c.grants(x, "the church", () -> x.lays(2, -2));
        c.due("bed", x.bed(2), -2);
        c.due("the others stay", x.bed(0), 3);
        c.due("three ACTS", x.size(11), 3);
    }

    static void promise46_whateverIsWrongThere(Check c) {
        OtherTown x = Check.town(S.replace("l plain", "l child") + ";foes k l;ill 100");
        c.grants(x, "his own side", () -> x.lays(0, 0));
        c.grants(x, "in another's bed", () -> x.lays(1, 0));
        x.lays(0, -2);
        x.lays(1, -2);
        x.night();
        c.grants(x, "ill", () -> x.lays(0, 1));
        c.grants(x, "ill, by a foe, without kin", () -> x.lays(1, 2));
        c.due("wrong", x.wrong(1), 4);
    }

    static void promise46_whereHeIsItIsNotSo(Check c) {
        OtherTown x = Check.lie(S, 0, 1);
        c.refuses(x, 5, "in his bed", () -> x.lays(0, 1));
        c.refuses(x, 5, "in the church", () -> x.lays(1, -2));
        c.due("no more ACTS", x.size(11), 1);
        c.grants(x, "elsewhere", () -> x.lays(0, 2));
        c.refuses(x, 5, "there now", () -> x.lays(0, 2));
    }

    static void promise46_thereIsNoSuchPersonOrBed(Check c) {
        OtherTown x = lived();
        leaves(c, x, "refused ones", () -> {
            for (int p : new int[] {-1, -2, 3, Edges.MOST, Edges.LEAST}) {
                c.refuses(x, 1, "person " + p, () -> x.lays(p, 2));
                c.refuses(x, 1, "person " + p, () -> x.lays(p, -2));
            }
            for (int bed : new int[] {-1, -3, 4, Edges.MOST, Edges.LEAST}) {
                c.refuses(x, 1, "bed " + bed, () -> x.lays(0, bed));
            }
        });
    }

    static void promise46_aRefusedOneLeavesAllAsItWas(Check c) {
        OtherTown x = lived();
        leaves(c, x, "one who is there", () -> x.lays(0, 3));
        leaves(c, x, "no such bed", () -> x.lays(0, 9));
        c.grants(x, "undo: the latest that was done", x::undo);
        c.due("his bed ahead of it", x.bed(0), 1);
    }

    // ---- promise 47: laysBest

    static void promise47_noneAndAllInTheChurch(Check c) {
        OtherTown x = Check.town(Edges.FULL + ";ill 100");
        c.granted(x, 0, "none", () -> x.laysBest(0));
        c.granted(x, 0, "none", () -> x.laysBest(1));
        c.due("the last of them", x.bed(9), 4);
        x.night();
        c.granted(x, 5, "all ill", () -> x.laysBest(0));
        c.due("bed", x.bed(0), -2);
        c.due("the other side stays", x.bed(5), 0);
    }

    static void promise47_theOtherSideStays(Check c) {
        OtherTown x = Check.lie(S, 2, 1, 0, 0);
        c.granted(x, 0, "left", () -> x.laysBest(0));
        c.due("k", x.bed(0), 1);
        c.due("l", x.bed(1), 2);
        c.due("m", x.bed(2), 1);
        c.granted(x, 0, "right", () -> x.laysBest(1));
        c.due("m", x.bed(2), 0);
    }

    static void promise47_isAnActEvenIfAllLieSo(Check c) {
        OtherTown x = Check.town(S);
        x.laysBest(0);
        c.granted(x, 0, "again", () -> x.laysBest(0));
        c.due("ACTS", x.size(11), 2);
        x.undo();
        c.due("still so", x.bed(0), 1);
    }

    static void promise47_aSideWithoutPeopleHasARowToo(Check c) {
        OtherTown x = Check.town("towns vow 1 month 0 wide 1 turn 0;house a left beds 1"
                + ";person k plain of a walks 1 kin 0");
        c.granted(x, 0, "right", () -> x.laysBest(1));
        c.granted(x, 1, "left: no beds", () -> x.laysBest(0));
        c.due("ACTS", x.size(11), 2);
    }

    static void promise47_thereAreTwoSides(Check c) {
        OtherTown x = lived();
        leaves(c, x, "refused ones", () -> {
            for (int side : new int[] {-1, 2, -2, Edges.MOST, Edges.LEAST}) {
                c.refused(x, 1, "side " + side, () -> x.laysBest(side));
            }
        });
    }

    // ---- promise 48: night

    static void promise48_answersHowManyThereHaveBeen(Check c) {
        OtherTown x = Check.town(S);
        for (int n = 1; n <= 60; n++) {
            int due = n;
            c.granted(x, due, "night " + n, x::night);
        }
        x.nights(40);
        c.granted(x, 101, "behind forty more", () -> {
            x.lays(0, -2);
            x.lays(1, -2);
            x.lays(2, -2);
            return x.night();
        });
    }

    static void promise48_somethingWrongLeavesAllAsItWas(Check c) {
        OtherTown x = lived();
        x.lays(0, 0);
        leaves(c, x, "a refused night", () -> c.refused(x, 5, "night", x::night));
        x.lays(0, -2);
        x.lays(2, -2);
        c.granted(x, 2, "mended", x::night);
    }

    static void promise48_anybodyWrongIsEnough(Check c) {
        OtherTown last = Check.lie(S, 0, 1, 2, 3);
        c.refused(last, 5, "the last one alone", last::night);
        OtherTown month = Check.lie(S, 0, 1);
        c.granted(month, 1, "the first", month::night);
        c.refused(month, 5, "TONIGHT stays, so he slept there", month::night);
        OtherTown free = Check.lie(FREE, 0, 1);
        c.granted(free, 1, "the first", free::night);
        c.granted(free, 2, "no month: again", free::night);
    }

    static void promise48_tonightStaysAsItIs(Check c) {
        OtherTown x = Check.lie(S, 0, 1, 2, 0);
        x.night();
        c.due("k", x.bed(0), 1);
        c.due("l", x.bed(1), -2);
        c.due("m", x.bed(2), 0);
    }

    static void promise48_illBelowTheDrawOnly(Check c) {
        // SEED 0: 74, 5624, 28652
        int[][] due = {{24, 0, 0, 0}, {25, 0, 1, 0}, {52, 0, 1, 0}, {53, 0, 1, 1}, {74, 0, 1, 1}, {75, 1, 1, 1},
            {0, 0, 0, 0}, {100, 1, 1, 1}};
        for (int[] d : due) {
            OtherTown x = Check.town(S + ";ill " + d[0]);
            x.night();
            for (int p = 0; p < 3; p++) {
                c.due("ill " + d[0] + " of " + p, x.person(p, 6), d[p + 1]);
            }
        }
    }

    static void promise48_whoIsNotDrawnIsWellAgain(Check c) {
        OtherTown x = Check.town(S + ";ill 25");
        x.night();
        c.due("ill", x.person(1, 6), 1);
        // SEED 28652: 51790, 17641, 12409
        x.night();
        c.due("well", x.person(1, 6), 0);
        c.due("another", x.person(2, 6), 1);
    }

    static void promise48_theDrawsWrapAround(Check c) {
        OtherTown x = Check.town(S + ";ill 37");
        x.seed(65536);
        x.night();
        c.due("65,536 stays", x.size(10), 65536);
        c.due("36 is below 37", x.person(0, 6), 1);
        OtherTown y = Check.town(S + ";ill 36");
        y.seed(65536);
        y.night();
        c.due("36 isn't below 36", y.person(0, 6), 0);
        // 75 * 45438 + 74 = 52 * 65537
        OtherTown z = Check.town("towns vow 1 month 0 wide 1 turn 0;house a left beds 1"
                + ";person k plain of a walks 1 kin 0;ill 1");
        z.seed(45438);
        z.night();
        c.due("a DRAW of 0", z.size(10), 0);
        c.due("0 is below 1", z.person(0, 6), 1);
    }

    static void promise48_isDrawnForEachWhateverIllIs(Check c) {
        OtherTown x = Check.town(S);
        x.night();
        c.due("three draws from 0", x.size(10), 28652);
        OtherTown y = Check.town(S + ";ill 0");
        y.night();
        c.due("three draws from 0", y.size(10), 28652);
    }

    static void promise48_isRefusedWithoutTowns(Check c) {
        OtherTown x = new OtherTown();
        c.refused(x, 1, "night", x::night);
    }

    // ---- promise 49: nights

    static void promise49_1To40(Check c) {
        OtherTown x = Check.town(S);
        c.granted(x, 1, "1", () -> x.nights(1));
        c.granted(x, 41, "40", () -> x.nights(40));
        c.granted(x, 81, "40 more", () -> x.nights(40));
        c.due("size 9", x.size(9), 81);
    }

    static void promise49_otherNumbersLeaveAllAsItWas(Check c) {
        OtherTown x = lived();
        leaves(c, x, "refused ones", () -> {
            for (int n : new int[] {0, -1, 41, Edges.MOST, Edges.LEAST}) {
                c.refused(x, 2, "nights " + n, () -> x.nights(n));
            }
        });
    }

    static void promise49_manyAreOneAct(Check c) {
        OtherTown x = lived();
        String before = Check.all(x);
        int acts = x.size(11);
        x.nights(40);
        c.due("ACTS", x.size(11), acts + 1);
        x.undo();
        c.due("all as before", Check.all(x), before);
    }

    static void promise49_whatIsWrongTonightIsAside(Check c) {
        OtherTown x = Check.lie(S, 0, 0, 1, 0, 2, 3);
        c.refused(x, 5, "no night", x::night);
        c.granted(x, 1, "but nights", () -> x.nights(1));
        c.due("the BEST ROWS stay laid", x.bed(0) * 100 + x.bed(1) * 10 + x.bed(2), 120);
    }

    static void promise49_isAsManyByHand(Check c) {
        OtherTown one = Check.town(S + ";ill 30");
        OtherTown other = Check.town(S + ";ill 30");
        one.nights(25);
        for (int i = 0; i < 25; i++) {
            other.laysBest(0);
            other.laysBest(1);
            other.night();
        }
        // what can be undone differs
        one.image();
        other.image();
        one.back(0);
        other.back(0);
        c.due("all", Check.all(one), Check.all(other));
    }

    static void promise49_sidesOfUnlikeNumbers(Check c) {
        // three of the left, the last of them a child without kin; of the right q wants a, which p had first
        OtherTown x = Check.town("towns vow 1 month 0 wide 1 turn 0;house a left beds 1;house b left beds 1"
                + ";house c right beds 2;person k plain of a walks 1 kin 0;person l plain of a walks 1 kin 0"
                + ";person m child of a walks 1 kin 9;person p plain of c walks 1 kin 0;person q plain of c walks 1 kin 0"
                + ";wants q a 5");
        c.granted(x, 1, "nights", () -> x.nights(1));
        int[] due = {2, 3, -2, 1, 0};
        for (int p = 0; p < 5; p++) {
            c.due("bed of " + p, x.bed(p), due[p]);
        }
    }

    static void promise49_withoutTownsItIsRefusedBy1WhateverTheNumber(Check c) {
        OtherTown x = new OtherTown();
        for (int n : new int[] {1, 40, 0, 41}) {
            c.refused(x, 1, "nights " + n, () -> x.nights(n));
        }
    }

    // ---- promise 50: seed

    static void promise50_0To65536(Check c) {
        OtherTown x = Check.town(S);
        for (int v : new int[] {65536, 0, 1, 65535}) {
            c.grants(x, "seed " + v, () -> x.seed(v));
            c.due("size 10", x.size(10), v);
        }
    }

    static void promise50_otherNumbersLeaveAllAsItWas(Check c) {
        OtherTown x = lived();
        leaves(c, x, "refused ones", () -> {
            for (int v : new int[] {-1, 65537, Edges.MOST, Edges.LEAST}) {
                c.refuses(x, 2, "seed " + v, () -> x.seed(v));
            }
        });
    }

    static void promise50_isNoAct(Check c) {
        OtherTown x = Check.town(S);
        x.seed(5);
        c.due("ACTS", x.size(11), 0);
        c.refuses(x, 6, "nothing to undo", x::undo);
        c.due("it stays", x.size(10), 5);
        c.grants(x, "the same again", () -> x.seed(5));
    }

    static void promise50_withoutTownsItIsRefusedBy1WhateverTheNumber(Check c) {
        OtherTown x = new OtherTown();
        for (int v : new int[] {0, 65536, -1, 65537}) {
            c.refuses(x, 1, "seed " + v, () -> x.seed(v));
        }
        c.due("size 10", x.size(10), 0);
    }

    // ---- promise 51: undo

    static void promise51_nothingToUndo(Check c) {
        OtherTown none = new OtherTown();
        c.refuses(none, 6, "without TOWNS", none::undo);
        OtherTown x = Check.town(S);
        c.refuses(x, 6, "no ACT yet", x::undo);
        x.lays(0, 1);
        c.grants(x, "one", x::undo);
        leaves(c, x, "a refused one", () -> c.refuses(x, 6, "no more", x::undo));
    }

    static void promise51_eachActIsOne(Check c) {
        OtherTown x = Check.town(S + ";ill 20");
        String first = Check.all(x);
        x.lays(0, 1);
        String laid = Check.all(x);
        x.laysBest(1);
        String best = Check.all(x);
        x.night();
        String slept = Check.all(x);
        x.nights(7);
        c.grants(x, "nights", x::undo);
        c.due("nights", Check.all(x), slept);
        c.grants(x, "night", x::undo);
        c.due("night", Check.all(x), best);
        c.grants(x, "laysBest", x::undo);
        c.due("laysBest", Check.all(x), laid);
        c.grants(x, "lays", x::undo);
        c.due("lays", Check.all(x), first);
    }

    static void promise51_allOfTheLastPeopleToo(Check c) {
        OtherTown x = Check.lie(Edges.FULL + ";ill 60", 8, 0, 9, 1, 4, 11);
        String before = Check.all(x);
        x.night();
        c.due("together", x.together(8, 9), 1);
        c.grants(x, "undo", x::undo);
        c.due("all as before", Check.all(x), before);
    }

    static void promise51_twelveAreKept(Check c) {
        OtherTown x = Check.town(FREE);
        for (int i = 1; i <= 12; i++) {
            x.night();
            c.due("ACTS", x.size(11), i);
        }
        for (int i = 11; i >= 0; i--) {
            c.grants(x, "undo", x::undo);
            c.due("NIGHTS left", x.size(9), i);
            c.due("ACTS left", x.size(11), i);
        }
        c.refuses(x, 6, "the thirteenth", x::undo);
    }

    static void promise51_ofMoreTheLatestTwelve(Check c) {
        for (int acts : new int[] {13, 14, 24, 25, 30}) {
            OtherTown x = Check.town(FREE);
            for (int i = 0; i < acts; i++) {
                x.night();
            }
            c.due("ACTS", x.size(11), 12);
            for (int i = 1; i <= 12; i++) {
                c.grants(x, "undo", x::undo);
                c.due("NIGHTS left of " + acts, x.size(9), acts - i);
            }
            c.refuses(x, 6, "no more of " + acts, x::undo);
        }
    }

    static void promise51_whatWasUndoneGivesRoomAgain(Check c) {
        OtherTown x = Check.town(FREE);
        for (int i = 0; i < 12; i++) {
            x.night();
        }
        x.undo();
        x.undo();
        x.night();
        c.due("ACTS", x.size(11), 11);
        c.due("NIGHTS", x.size(9), 11);
        x.undo();
        c.due("NIGHTS", x.size(9), 10);
    }

    static void promise51_seedIsAsAheadOfTheAct(Check c) {
        OtherTown x = Check.town(S);
        x.seed(7);
        x.lays(0, 1);
        x.seed(9);
        x.seed(10);
        c.grants(x, "undo", x::undo);
        c.due("SEED", x.size(10), 7);
    }

    static void promise51_anUndoIsNotUndone(Check c) {
        OtherTown x = Check.town(S);
        x.lays(0, 1);
        x.lays(0, 2);
        x.undo();
        x.undo();
        c.due("in the church", x.bed(0), -2);
        c.refuses(x, 6, "no more", x::undo);
    }

    static void promise51_imagesAndTheTapeStay(Check c) {
        OtherTown x = Check.lie(S, 0, 1);
        x.image();
        x.feed(0, 0, 0, 0, 0);
        x.undo();
        c.due("IMAGES", x.size(12), 1);
        c.due("THE TAPE", x.size(13), 20);
        x.back(0);
        c.due("the IMAGE of what was undone", x.bed(0), 1);
    }

    // ---- promise 52: image

    static void promise52_upTo3(Check c) {
        OtherTown x = Check.town(S);
        for (int i = 0; i < 3; i++) {
            int due = i;
            c.granted(x, due, "image " + i, x::image);
            c.due("IMAGES", x.size(12), i + 1);
        }
        leaves(c, x, "a fourth", () -> c.refused(x, 3, "a fourth", x::image));
        leaves(c, x, "a fifth", () -> c.refused(x, 3, "a fifth", x::image));
    }

    static void promise52_aRefusedOneLeavesTheImages(Check c) {
        OtherTown x = Check.lie(S, 0, 1);
        x.image();
        x.lays(0, 2);
        x.image();
        x.lays(0, 3);
        x.image();
        x.lays(0, 0);
        c.refused(x, 3, "a fourth", x::image);
        for (int i = 0; i < 3; i++) {
            int image = i;
            c.grants(x, "back " + i, () -> x.back(image));
            c.due("his bed", x.bed(0), i + 1);
        }
    }

    static void promise52_isNoActAndChangesNothing(Check c) {
        OtherTown x = Check.lie(S, 0, 1);
        x.image();
        c.due("ACTS", x.size(11), 1);
        c.due("bed", x.bed(0), 1);
        x.undo();
        c.due("IMAGES stay", x.size(12), 1);
    }

    static void promise52_isRefusedWithoutTowns(Check c) {
        OtherTown x = new OtherTown();
        c.refused(x, 1, "image", x::image);
        c.due("IMAGES", x.size(12), 0);
    }

    static void promise52_newTownsHaveRoomAgain(Check c) {
        OtherTown x = Check.town(S);
        x.image();
        x.image();
        x.image();
        Check.tell(x, S + ".");
        c.refused(x, 3, "the TOWNS stayed", x::image);
        Check.tell(x, S);
        c.granted(x, 0, "new ones", x::image);
    }

    // ---- promise 53: back

    static void promise53_thereIsNoSuchImage(Check c) {
        OtherTown none = new OtherTown();
        c.refuses(none, 1, "without TOWNS", () -> none.back(0));
        OtherTown x = lived();
        leaves(c, x, "refused ones", () -> {
            for (int image : new int[] {-1, -2, 1, 2, 3, Edges.MOST, Edges.LEAST}) {
                c.refuses(x, 1, "back " + image, () -> x.back(image));
            }
        });
        c.grants(x, "what could be undone can still be", x::undo);
    }

    static void promise53_allIsAsByTheImage(Check c) {
        OtherTown x = Check.lie(S + ";ill 50", 0, 1, 2, 0);
        x.seed(77);
        x.night();
        String then = withoutCounts(Check.all(x));
        x.image();
        x.nights(9);
        x.seed(3);
        x.lays(1, 1);
        c.grants(x, "back", () -> x.back(0));
        c.due("all", withoutCounts(Check.all(x)), then);
    }

    /** Without the numbers of ACTS, IMAGES and bytes, which an IMAGE doesn't bring back. */
    private static String withoutCounts(String all) {
        String[] parts = all.split("\\|", 2);
        String[] sizes = parts[0].split(" ");
        return String.join(" ", java.util.Arrays.copyOf(sizes, 11)) + "|" + parts[1];
    }

    static void promise53_nothingCanBeUndoneThen(Check c) {
        OtherTown x = lived();
        c.grants(x, "back", () -> x.back(0));
        c.due("ACTS", x.size(11), 0);
        c.refuses(x, 6, "undo", x::undo);
        x.lays(1, 2);
        c.grants(x, "what comes then can", x::undo);
        c.due("bed", x.bed(1), -2);
        c.refuses(x, 6, "no more", x::undo);
    }

    static void promise53_allImagesStay(Check c) {
        OtherTown x = Check.town(FREE);
        x.image();
        x.night();
        x.image();
        x.night();
        x.image();
        for (int image : new int[] {0, 2, 1, 1, 0, 2}) {
            c.grants(x, "back " + image, () -> x.back(image));
            c.due("NIGHTS", x.size(9), image);
            c.due("IMAGES", x.size(12), 3);
            x.night();
        }
    }

    static void promise53_whatComesThenLeavesTheImage(Check c) {
        OtherTown x = Check.town(FREE);
        x.image();
        x.back(0);
        x.lays(0, 1);
        x.night();
        x.seed(4);
        x.back(0);
        c.due("bed", x.bed(0), -2);
        c.due("NIGHTS", x.size(9), 0);
        c.due("SEED", x.size(10), 0);
    }

    static void promise53_theTapeStays(Check c) {
        OtherTown x = Check.town(FREE);
        x.image();
        x.feed(0, 0, 0, 0, 0);
        x.back(0);
        c.due("THE TAPE", x.size(13), 20);
    }

    public static void main(String[] args) {
        Edges.run(EdgesActsTest.class);
    }
}
