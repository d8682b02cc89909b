/** Boundary cases of promises 30 to 33: BEST NIGHTS to come. */
public final class EdgesToComeTest {
    private static final String H = ";house a left beds 1;house c right beds 1;house d right beds 1";
    private static final String ONE = "towns vow 1 month 0 wide 1 turn 0" + H + ";person k plain of a walks 1 kin 1";
    /** k and l of the left, one house with one bed for them. */
    private static final String TWO = "towns vow 1 month 0 wide 1 turn 0;house a left beds 1;house c right beds 1"
            + ";person k plain of a walks 1 kin 1;person l plain of a walks 1 kin 2";
    /** By the draws from SEED 0 behind a first NIGHT he is ill for 39 more; from SEED 186 for 40 more. */
    private static final String ILL = "towns vow 1 month 0 wide 1 turn 0;house a left beds 1;house c right beds 1"
            + ";person k plain of a walks 1 kin 1;ill 97";

    private static OtherTown ill(int seed) {
        OtherTown x = Check.town(ILL);
        x.seed(seed);
        x.night();
        return x;
    }

    // ---- promise 30: peaceIn

    static void promise30_is0IfThereIsPeaceNow(Check c) {
        OtherTown x = Check.lie(ONE, 0, 1);
        c.granted(x, 1, "not yet", x::peaceIn);
        x.night();
        c.granted(x, 0, "now", x::peaceIn);
        OtherTown alone = Check.town("towns vow 6 month 0 wide 1 turn 0;house a left beds 1"
                + ";person k plain of a walks 1 kin 1");
        c.granted(alone, 0, "no house to sleep in", alone::peaceIn);
    }

    static void promise30_isTheFirstSuchHoweverFarWasAsked(Check c) {
        OtherTown x = Check.lie(ONE, 0, 1);
        x.night();
        x.churchIn(40);
        c.granted(x, 0, "now, though forty were lived through", x::peaceIn);
        OtherTown y = Check.town(ONE);
        y.knowsIn(0, 40);
        c.granted(y, 1, "one, though forty were lived through", y::peaceIn);
    }

    static void promise30_40IsTheLast(Check c) {
        OtherTown forty = ill(0);
        c.granted(forty, 40, "behind 40", forty::peaceIn);
        OtherTown later = ill(186);
        c.granted(later, -2, "behind 41", later::peaceIn);
        later.nights(1);
        c.granted(later, 40, "a night later", later::peaceIn);
    }

    static void promise30_neverIsMinus2(Check c) {
        OtherTown x = Check.town(ONE.replace("vow 1", "vow 2"));
        c.granted(x, -2, "always the first house", x::peaceIn);
        OtherTown child = Check.town(ONE.replace("plain", "child"));
        c.granted(child, -2, "always in the church", child::peaceIn);
    }

    static void promise30_whatIsLaidAndWrongTonightIsAside(Check c) {
        OtherTown x = Check.lie(ONE, 0, 0);
        c.due("wrong", x.wrong(0), 1);
        c.granted(x, 1, "BEST ROWS are laid first", x::peaceIn);
    }

    static void promise30_isRefusedWithoutTowns(Check c) {
        OtherTown x = new OtherTown();
        c.refused(x, 1, "peaceIn", x::peaceIn);
    }

    static void promise30_changesNothing(Check c) {
        OtherTown x = Check.lie(TWO + ";ill 20", 0, 1);
        x.night();
        x.image();
        String before = Check.all(x);
        x.peaceIn();
        x.churchIn(40);
        x.knowsIn(1, 40);
        x.leaksIn(0);
        c.due("all", Check.all(x), before);
    }

    // ---- promise 31: churchIn

    static void promise31_noneIn0Nights(Check c) {
        OtherTown x = Check.town(TWO);
        c.granted(x, 0, "0", () -> x.churchIn(0));
        c.granted(x, 1, "1", () -> x.churchIn(1));
    }

    static void promise31_40AreTheMost(Check c) {
        OtherTown x = Check.town(Edges.FULL + ";ill 100");
        x.night();
        c.granted(x, 390, "39", () -> x.churchIn(39));
        c.granted(x, 400, "40", () -> x.churchIn(40));
    }

    static void promise31_theFirstBedIsNoChurch(Check c) {
        OtherTown x = Check.town("towns vow 1 month 0 wide 1 turn 0;house a left beds 1;house c right beds 1"
                + ";person k plain of c walks 1 kin 1");
        c.granted(x, 0, "always in bed 0", () -> x.churchIn(40));
    }

    static void promise31_anotherSeedBringsOtherNights(Check c) {
        OtherTown x = Check.town(TWO + ";ill 50");
        // SEED 0: 74, 24 .. l is ill; SEED 65,536 stays, 36: all are for ever
        c.granted(x, 1 + 1, "from SEED 0", () -> x.churchIn(2));
        x.seed(65536);
        c.granted(x, 1 + 2, "from SEED 65,536", () -> x.churchIn(2));
        x.seed(0);
        c.granted(x, 1 + 1, "from SEED 0 again", () -> x.churchIn(2));
    }

    static void promise31_otherNumbersAreRefused(Check c) {
        OtherTown x = Check.town(TWO);
        for (int n : new int[] {-1, 41, Edges.MOST, Edges.LEAST}) {
            c.refused(x, 2, "churchIn " + n, () -> x.churchIn(n));
        }
    }

    static void promise31_withoutTownsItIsRefusedBy1WhateverTheNumber(Check c) {
        OtherTown x = new OtherTown();
        for (int n : new int[] {0, 40, -1, 41}) {
            c.refused(x, 1, "churchIn " + n, () -> x.churchIn(n));
        }
    }

    static void promise31_countsFromNowOn(Check c) {
        OtherTown x = Check.town(TWO);
        x.night();
        x.night();
        c.granted(x, 0, "nights that were do not count", () -> x.churchIn(0));
        c.granted(x, 3, "three to come", () -> x.churchIn(3));
    }

    // ---- promise 32: knowsIn

    static void promise32_behind0NightsWhatHeKnowsNow(Check c) {
        OtherTown x = Check.town(ONE);
        c.granted(x, 1, "at first", () -> x.knowsIn(0, 0));
        c.granted(x, 3, "behind one", () -> x.knowsIn(0, 1));
        x.lays(0, 2);
        x.night();
        c.granted(x, 5, "now", () -> x.knowsIn(0, 0));
        c.granted(x, 7, "behind one more", () -> x.knowsIn(0, 1));
    }

    static void promise32_eachKnowsHisOwn(Check c) {
        OtherTown x = Check.town(Edges.SMALL.replace("person m plain of c", "person m plain of d"));
        c.granted(x, 1, "k now", () -> x.knowsIn(0, 0));
        c.granted(x, 4, "m now", () -> x.knowsIn(2, 0));
        c.granted(x, 1 + 2, "l behind one", () -> x.knowsIn(1, 1));
        c.granted(x, 1 + 4, "m behind one", () -> x.knowsIn(2, 1));
    }

    static void promise32_40IsTheLast(Check c) {
        OtherTown x = ill(0);
        c.granted(x, 1, "behind 39", () -> x.knowsIn(0, 39));
        c.granted(x, 3, "behind 40", () -> x.knowsIn(0, 40));
        for (int n : new int[] {-1, 41, Edges.MOST, Edges.LEAST}) {
            c.refused(x, 2, "knowsIn " + n, () -> x.knowsIn(0, n));
        }
    }

    static void promise32_noSuchPersonAheadOfTheNumber(Check c) {
        OtherTown x = Check.town(TWO);
        for (int p : new int[] {-1, -2, 2, Edges.MOST, Edges.LEAST}) {
            c.refused(x, 1, "knowsIn " + p, () -> x.knowsIn(p, 0));
            c.refused(x, 1, "knowsIn 41 " + p, () -> x.knowsIn(p, 41));
        }
        OtherTown none = new OtherTown();
        c.refused(none, 1, "without TOWNS", () -> none.knowsIn(0, -1));
    }

    // ---- promise 33: leaksIn

    static void promise33_is0IfAnybodyKnowsNow(Check c) {
        OtherTown x = Check.lie(ONE, 0, 2);
        c.granted(x, 1, "c: by the BEST ROW", () -> x.leaksIn(1));
        c.granted(x, -2, "d: not by any", () -> x.leaksIn(2));
        x.night();
        c.granted(x, 0, "d: now", () -> x.leaksIn(2));
    }

    static void promise33_40IsTheLast(Check c) {
        OtherTown forty = ill(0);
        c.granted(forty, 40, "behind 40", () -> forty.leaksIn(1));
        OtherTown later = ill(186);
        c.granted(later, -2, "behind 41", () -> later.leaksIn(1));
        later.nights(1);
        c.granted(later, 40, "a night later", () -> later.leaksIn(1));
    }

    static void promise33_thoseOfItsOwnSideDoNotCount(Check c) {
        OtherTown x = Check.town(ONE);
        c.granted(x, -2, "a: his home", () -> x.leaksIn(0));
        OtherTown full = Check.town(Edges.FULL + ";ill 100");
        full.night();
        c.granted(full, -2, "ten in the church for ever", () -> full.leaksIn(5));
    }

    static void promise33_thereIsNoSuchHouse(Check c) {
        OtherTown x = Check.town(ONE);
        for (int h : new int[] {-1, -2, 3, Edges.MOST, Edges.LEAST}) {
            c.refused(x, 1, "leaksIn " + h, () -> x.leaksIn(h));
        }
        OtherTown none = new OtherTown();
        c.refused(none, 1, "without TOWNS", () -> none.leaksIn(0));
    }

    static void promise33_followsEachChangeOfNow(Check c) {
        OtherTown x = Check.town(ILL);
        c.granted(x, 1, "at first", () -> x.leaksIn(1));
        x.night();
        c.granted(x, 40, "ill since", () -> x.leaksIn(1));
        x.undo();
        c.granted(x, 1, "undone", () -> x.leaksIn(1));
        x.seed(186);
        x.image();
        x.night();
        c.granted(x, -2, "another SEED", () -> x.leaksIn(1));
        x.back(0);
        c.granted(x, 1, "gone back", () -> x.leaksIn(1));
        Check.tell(x, ONE.replace("plain", "child"));
        c.granted(x, -2, "other TOWNS", () -> x.leaksIn(1));
    }

    public static void main(String[] args) {
        Edges.run(EdgesToComeTest.class);
    }
}
