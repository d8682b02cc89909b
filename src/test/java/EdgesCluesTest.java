/** Boundary cases of promises 41 to 45: who slept where by clues, what to ask. */
public final class EdgesCluesTest {
    private static final int[] NO_SIDES = {-1, 2, -2, Edges.MOST, Edges.LEAST};
    private static final int[] NOBODY = {-1, -2, 2, Edges.MOST, Edges.LEAST};

    /** Beds: a 0, c 1 2, d 3. Two of the left, nobody of the right. */
    private static final String C = "towns vow 1 month 5 wide 1 turn 0;house a left beds 1;house c right beds 2"
            + ";house d right beds 1;person k plain of a walks 1 kin 0;person l plain of a walks 1 kin 0";
    private static final String NO_BEDS = "towns vow 1 month 0 wide 1 turn 0;house a left beds 2"
            + ";person k plain of a walks 1 kin 0;person l plain of a walks 1 kin 0";
    private static final String NO_FITS = C + ";shoe k c;shoe k d";

    // ---- promise 41: fits

    static void promise41_fromNoneToTheMost(Check c) {
        OtherTown none = Check.town(NO_FITS);
        c.granted(none, 0, "shoes in two houses", () -> none.fits(0));
        OtherTown one = Check.town(C + ";shoe k d;shoe l c;cold c 0");
        c.granted(one, 1, "one", () -> one.fits(0));
        OtherTown full = Check.town(Edges.FULL);
        c.granted(full, 4051, "no clues", () -> full.fits(0));
        c.granted(full, 4051, "no clues", () -> full.fits(1));
    }

    static void promise41_withoutPeopleOrBedsThereIsOne(Check c) {
        OtherTown x = Check.town(NO_BEDS);
        c.granted(x, 1, "no beds", () -> x.fits(0));
        c.granted(x, 1, "no people", () -> x.fits(1));
        OtherTown y = Check.town(NO_FITS);
        c.granted(y, 1, "no people, whatever the other side's shoes", () -> y.fits(1));
    }

    static void promise41_allBedsCold(Check c) {
        OtherTown x = Check.town(C + ";cold c 0;cold c 1;cold d 0");
        c.granted(x, 1, "all in the church", () -> x.fits(0));
        OtherTown y = Check.town(C + ";cold d 0;shoe k d");
        c.granted(y, 0, "a shoe where all is cold", () -> y.fits(0));
    }

    static void promise41_coldBedsOfTheOwnSideAreNothing(Check c) {
        OtherTown x = Check.town(C + ";cold a 0");
        c.granted(x, 13, "all", () -> x.fits(0));
    }

    static void promise41_theSameClueTwiceIsOne(Check c) {
        OtherTown x = Check.town(C + ";shoe k c;shoe k c;cold d 0;cold d 0");
        // k in 1 or 2, l in the other or the church
        c.granted(x, 4, "fits", () -> x.fits(0));
    }

    static void promise41_whateverWasSleptInAndWhoeverIsIll(Check c) {
        OtherTown x = Check.lie(C + ";ill 100", 0, 1, 1, 2);
        x.night();
        c.granted(x, 1, "rows: all ill", () -> x.rows(0));
        c.granted(x, 13, "fits", () -> x.fits(0));
    }

    static void promise41_whatElseIsWrongIsLeftOut(Check c) {
        OtherTown foes = Check.town(C + ";foes k l");
        c.granted(foes, 11, "foes", () -> foes.fits(0));
        OtherTown child = Check.town(C.replace("k plain", "k child"));
        c.granted(child, 6, "a child", () -> child.fits(0));
        OtherTown alone = Check.town(C.replace("k plain", "k child") + ";shoe k d");
        c.granted(alone, 0, "a child in a house of one bed", () -> alone.fits(0));
    }

    static void promise41_thereAreTwoSides(Check c) {
        OtherTown x = Check.town(C);
        for (int side : NO_SIDES) {
            c.refused(x, 1, "side " + side, () -> x.fits(side));
        }
    }

    static void promise41_otherTownsHaveOtherFits(Check c) {
        OtherTown x = Check.town(NO_FITS);
        c.granted(x, 0, "none", () -> x.fits(0));
        Check.tell(x, C);
        c.granted(x, 13, "all", () -> x.fits(0));
        c.granted(x, 1, "right: no people", () -> x.fits(1));
        c.granted(x, 2 + 4, "could", () -> x.could(1));
        c.granted(x, 3, "fitsWith", () -> x.fitsWith(1, 3));
        Check.tell(x, Edges.SMALL + ";cold d 0");
        c.granted(x, 2, "right: one person", () -> x.fits(1));
        c.granted(x, 7, "d is cold", () -> x.fits(0));
        c.granted(x, 2, "could", () -> x.could(1));
        c.granted(x, 0, "fitsWith", () -> x.fitsWith(1, 3));
        Check.tell(x, C);
        c.granted(x, 13, "all", () -> x.fits(0));
        Check.tell(x, NO_FITS + ".");
        c.granted(x, 13, "the TOWNS stay by a FAULT", () -> x.fits(0));
    }

    // ---- promise 42: could

    static void promise42_is0WithoutFits(Check c) {
        OtherTown x = Check.town(NO_FITS);
        c.granted(x, 0, "k", () -> x.could(0));
        c.granted(x, 0, "l", () -> x.could(1));
    }

    static void promise42_theChurchIsNoHouse(Check c) {
        OtherTown x = Check.town(C + ";cold c 0;cold c 1;cold d 0");
        c.granted(x, 0, "all in the church", () -> x.could(0));
        OtherTown y = Check.town(C);
        c.granted(y, 2 + 4, "both houses", () -> y.could(0));
    }

    static void promise42_aHouseIsOneWhateverTheBed(Check c) {
        OtherTown x = Check.town(C + ";cold c 0;cold d 0");
        c.granted(x, 2, "by its second bed alone", () -> x.could(1));
        OtherTown full = Check.town(Edges.FULL);
        c.granted(full, 8 + 16 + 32, "all of the right", () -> full.could(0));
        c.granted(full, 1 + 2 + 4, "all of the left", () -> full.could(9));
    }

    static void promise42_thereIsNobodyBeyondThem(Check c) {
        OtherTown x = Check.town(C);
        for (int p : NOBODY) {
            c.refused(x, 1, "could " + p, () -> x.could(p));
        }
    }

    // ---- promise 43: surely

    static void promise43_isMinus2IfNotInAllOfThem(Check c) {
        OtherTown x = Check.town(C + ";cold c 0;cold c 1");
        // d, or the church
        c.granted(x, -2, "the church in some", () -> x.surely(0));
        OtherTown church = Check.town(C + ";cold c 0;cold c 1;cold d 0");
        c.granted(church, -2, "the church in all", () -> church.surely(0));
        OtherTown two = Check.town(C);
        c.granted(two, -2, "two houses", () -> two.surely(0));
        OtherTown sure = Check.town(C + ";shoe k c;cold c 0");
        c.granted(sure, 1, "k in all", () -> sure.surely(0));
        c.granted(sure, -2, "l in d, or the church", () -> sure.surely(1));
    }

    static void promise43_isTheHouseWhateverTheBed(Check c) {
        OtherTown x = Check.town(C + ";shoe k c;shoe l d");
        c.granted(x, 2, "fits", () -> x.fits(0));
        c.granted(x, 1, "either bed of c", () -> x.surely(0));
        c.granted(x, 2, "the bed of d", () -> x.surely(1));
    }

    static void promise43_house0IsAHouse(Check c) {
        OtherTown x = Check.town("towns vow 1 month 0 wide 1 turn 0;house a left beds 1;house c right beds 1"
                + ";person k plain of c walks 1 kin 0;shoe k a");
        c.granted(x, 0, "a", () -> x.surely(0));
    }

    static void promise43_isOfHisOwnSide(Check c) {
        OtherTown x = Check.town(Edges.FULL + ";shoe k f;shoe t b");
        c.granted(x, 5, "k of the left", () -> x.surely(0));
        c.granted(x, -2, "l of the left", () -> x.surely(1));
        c.granted(x, 1, "t of the right", () -> x.surely(9));
        c.granted(x, -2, "s of the right", () -> x.surely(8));
        c.granted(x, 1 + 2 + 4, "s could", () -> x.could(8));
        c.granted(x, 2, "t could", () -> x.could(9));
    }

    static void promise43_isMinus2WithoutFits(Check c) {
        OtherTown x = Check.town(NO_FITS);
        c.granted(x, -2, "k", () -> x.surely(0));
        c.granted(x, -2, "l", () -> x.surely(1));
    }

    static void promise43_thereIsNobodyBeyondThem(Check c) {
        OtherTown x = Check.town(C);
        for (int p : NOBODY) {
            c.refused(x, 1, "surely " + p, () -> x.surely(p));
        }
    }

    // ---- promise 44: fitsWith

    static void promise44_aBedOrTheChurch(Check c) {
        OtherTown x = Check.town(C);
        int[] due = {0, 3, 3, 3};
        for (int bed = 0; bed < 4; bed++) {
            int b = bed;
            c.granted(x, due[bed], "bed " + bed, () -> x.fitsWith(0, b));
        }
        c.granted(x, 4, "the church", () -> x.fitsWith(0, -2));
    }

    static void promise44_is0OnHisOwnSideInTheColdAndWithoutFits(Check c) {
        OtherTown x = Check.town(C + ";cold c 1");
        c.granted(x, 0, "his own side", () -> x.fitsWith(0, 0));
        c.granted(x, 0, "a cold bed", () -> x.fitsWith(0, 2));
        OtherTown none = Check.town(NO_FITS);
        c.granted(none, 0, "no FITS", () -> none.fitsWith(1, 1));
        c.granted(none, 0, "no FITS", () -> none.fitsWith(1, -2));
        OtherTown shoe = Check.town(C + ";shoe k c");
        c.granted(shoe, 0, "his shoe says no church", () -> shoe.fitsWith(0, -2));
    }

    static void promise44_theMost(Check c) {
        OtherTown x = Check.town(Edges.FULL);
        // four others in five beds: 1, 4 * 5, 6 * 20, 4 * 60, 120
        c.granted(x, 501, "a bed", () -> x.fitsWith(4, 11));
        // four others in six beds: 1, 4 * 6, 6 * 30, 4 * 120, 360
        c.granted(x, 1045, "the church", () -> x.fitsWith(9, -2));
    }

    static void promise44_thereIsNoSuchPersonOrBed(Check c) {
        OtherTown x = Check.town(C);
        for (int p : NOBODY) {
            c.refused(x, 1, "person " + p, () -> x.fitsWith(p, -2));
        }
        for (int bed : new int[] {-1, -3, 4, Edges.MOST, Edges.LEAST}) {
            c.refused(x, 1, "bed " + bed, () -> x.fitsWith(0, bed));
        }
    }

    // ---- promise 45: ask

    static void promise45_isRefusedWithoutBedsOfTheOtherSide(Check c) {
        OtherTown x = Check.town(NO_BEDS);
        c.refused(x, 6, "left", () -> x.ask(0));
        c.granted(x, 0, "right: nobody of it, but beds for them", () -> x.ask(1));
    }

    static void promise45_ofLikeOnesTheFirst(Check c) {
        OtherTown x = Check.town(C);
        c.granted(x, 1, "all alike", () -> x.ask(0));
        OtherTown none = Check.town(NO_FITS);
        c.granted(none, 1, "no FITS: all 0", () -> none.ask(0));
        OtherTown sure = Check.town(C + ";cold c 0;cold c 1;cold d 0");
        c.granted(sure, 1, "nothing to learn: all 0", () -> sure.ask(0));
    }

    static void promise45_theLesserNumberIsGreatest(Check c) {
        // k in c: 1 or 2; l in the other, in d, or the church. 6 FITS: bed 1 in 4, bed 2 in 4, bed 3 in 2
        OtherTown x = Check.town(C + ";shoe k c");
        c.granted(x, 6, "fits", () -> x.fits(0));
        c.granted(x, 1, "2 and 2 and 2: the first", () -> x.ask(0));
        // bed 1 cold: k in 2 always; l in d or the church
        OtherTown y = Check.town(C + ";shoe k c;cold c 0");
        c.granted(y, 3, "1 of 2 in d", () -> y.ask(0));
    }

    static void promise45_theLastBedOfAll(Check c) {
        OtherTown x = Check.town(Edges.FULL + ";cold d 0;cold e 0;cold e 1;cold f 0;cold f 1");
        // bed 11: five who may be in it, or nobody
        c.granted(x, 6, "fits", () -> x.fits(0));
        c.granted(x, 11, "left", () -> x.ask(0));
        c.granted(x, 0, "right: all alike", () -> x.ask(1));
    }

    static void promise45_itIsABedOfTheOtherSide(Check c) {
        OtherTown x = Check.town("towns vow 1 month 0 wide 1 turn 0;house c right beds 2;house a left beds 1"
                + ";person k plain of c walks 1 kin 0;person l plain of a walks 1 kin 0");
        c.granted(x, 2, "for the right", () -> x.ask(1));
        c.granted(x, 0, "for the left", () -> x.ask(0));
    }

    static void promise45_thereAreTwoSides(Check c) {
        OtherTown x = Check.town(NO_BEDS);
        for (int side : NO_SIDES) {
            c.refused(x, 1, "side " + side, () -> x.ask(side));
        }
    }

    public static void main(String[] args) {
        Edges.run(EdgesCluesTest.class);
    }
}
