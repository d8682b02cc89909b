/** Boundary cases of promises 6 to 9: what is as told. */
public final class EdgesToldTest {
    private static final String FULL = Edges.FULL + Edges.FULL_FOES + Edges.FULL_WANTS + Edges.FULL_KEEPS;

    // ---- promise 6: house

    static void promise06_housesFromTheFirstToTheLast(Check c) {
        OtherTown x = Check.town(FULL);
        int[][] due = {{0, 3, 0}, {0, 2, 3}, {0, 1, 5}, {1, 1, 6}, {1, 2, 7}, {1, 3, 9}};
        for (int house = 0; house < 6; house++) {
            for (int asked = 0; asked < 3; asked++) {
                int h = house;
                int what = asked;
                c.granted(x, due[h][what], "house " + h + " " + what, () -> x.house(h, what));
            }
        }
    }

    static void promise06_thereIsNoHouseBeyondThem(Check c) {
        OtherTown x = Check.town(FULL);
        for (int h : new int[] {-1, -2, 6, Edges.MOST, Edges.LEAST}) {
            c.refused(x, 1, "house " + h, () -> x.house(h, 0));
        }
        OtherTown small = Check.town(Edges.SMALL);
        c.refused(small, 1, "house 3 of three", () -> small.house(3, 0));
    }

    static void promise06_fourThingsAreAskedOfIt(Check c) {
        OtherTown x = Check.town(FULL);
        for (int what : new int[] {-1, 4, 5, Edges.MOST, Edges.LEAST}) {
            c.refused(x, 1, "what " + what, () -> x.house(0, what));
        }
    }

    static void promise06_keepsEvenOf0Are1(Check c) {
        OtherTown x = Check.town(Edges.SMALL + ";keeps c 0 0 0 0");
        c.granted(x, 0, "without", () -> x.house(0, 3));
        c.granted(x, 1, "with", () -> x.house(1, 3));
        c.granted(x, 0, "without", () -> x.house(2, 3));
    }

    static void promise06_bedsAreNumberedHouseByHouseWhateverTheSide(Check c) {
        OtherTown x = Check.town("towns vow 1 month 0 wide 1 turn 0;house a right beds 2;house b left beds 3"
                + ";house c right beds 1;person k plain of a walks 1 kin 0");
        c.due("a", x.house(0, 2), 0);
        c.due("b", x.house(1, 2), 2);
        c.due("c", x.house(2, 2), 5);
    }

    // ---- promise 7: person

    static void promise07_peopleFromTheFirstToTheLast(Check c) {
        OtherTown x = Check.town(FULL);
        int[][] first = {{0, 0}, {1, 0}, {2, 0}, {3, 9}, {4, 9}, {5, 992}, {6, 0}};
        int[][] last = {{0, 0}, {1, 5}, {2, 1}, {3, 9}, {4, 9}, {5, 3}, {6, 0}};
        for (int i = 0; i < 7; i++) {
            int what = i;
            c.granted(x, first[i][1], "person 0 " + i, () -> x.person(0, what));
            c.granted(x, last[i][1], "person 9 " + i, () -> x.person(9, what));
        }
    }

    static void promise07_thereIsNobodyBeyondThem(Check c) {
        OtherTown x = Check.town(FULL);
        for (int p : new int[] {-1, -2, 10, Edges.MOST, Edges.LEAST}) {
            c.refused(x, 1, "person " + p, () -> x.person(p, 0));
        }
        OtherTown small = Check.town(Edges.SMALL);
        c.refused(small, 1, "person 3 of three", () -> small.person(3, 0));
    }

    static void promise07_sevenThingsAreAskedOfHim(Check c) {
        OtherTown x = Check.town(FULL);
        for (int what : new int[] {-1, 7, 8, Edges.MOST, Edges.LEAST}) {
            c.refused(x, 1, "what " + what, () -> x.person(0, what));
        }
    }

    static void promise07_eachKindHasItsNumber(Check c) {
        OtherTown x = Check.town("towns vow 1 month 0 wide 1 turn 0;house a left beds 1;person k plain of a walks 1 kin 0"
                + ";person l snorer of a walks 1 kin 0;person m light of a walks 1 kin 0"
                + ";person n child of a walks 1 kin 0");
        for (int kind = 0; kind < 4; kind++) {
            int p = kind;
            c.granted(x, kind, "kind " + kind, () -> x.person(p, 0));
        }
    }

    static void promise07_theLeastAndTheMostWalkAndKin(Check c) {
        OtherTown x = Check.town(Edges.SMALL + ";person n plain of d walks 9 kin 9");
        c.granted(x, 1, "the least walk", () -> x.person(0, 3));
        c.granted(x, 0, "the least kin", () -> x.person(0, 4));
        c.granted(x, 9, "the most", () -> x.person(3, 3));
        c.granted(x, 9, "the most", () -> x.person(3, 4));
    }

    static void promise07_foesAreFoesOfEachOther(Check c) {
        OtherTown x = Check.town(Edges.SMALL + ";foes m k");
        c.granted(x, 4, "of k", () -> x.person(0, 5));
        c.granted(x, 0, "of l: none", () -> x.person(1, 5));
        c.granted(x, 1, "of m", () -> x.person(2, 5));
    }

    static void promise07_illAsOfTomorrow(Check c) {
        OtherTown x = Check.town(Edges.SMALL + ";ill 100");
        c.granted(x, 0, "ahead of the first NIGHT", () -> x.person(2, 6));
        x.night();
        c.granted(x, 1, "behind it", () -> x.person(2, 6));
        OtherTown well = Check.town(Edges.SMALL + ";ill 0");
        well.night();
        c.granted(well, 0, "with ill 0", () -> well.person(2, 6));
    }

    // ---- promise 8: houseOf

    static void promise08_bedsFromTheFirstToTheLast(Check c) {
        OtherTown x = Check.town(FULL);
        int[] due = {0, 0, 0, 1, 1, 2, 3, 4, 4, 5, 5, 5};
        for (int b = 0; b < 12; b++) {
            int bed = b;
            c.granted(x, due[b], "houseOf " + b, () -> x.houseOf(bed));
        }
    }

    static void promise08_thereIsNoBedBeyondThem(Check c) {
        OtherTown x = Check.town(FULL);
        for (int bed : new int[] {-1, -2, 12, Edges.MOST, Edges.LEAST}) {
            c.refused(x, 1, "houseOf " + bed, () -> x.houseOf(bed));
        }
        OtherTown small = Check.town(Edges.SMALL);
        c.refused(small, 1, "bed 4 of four", () -> small.houseOf(4));
    }

    // ---- promise 9: wants

    static void promise09_is0WhereNotTold(Check c) {
        OtherTown x = Check.town(Edges.SMALL + ";wants k c 1;wants l c 9");
        c.granted(x, 1, "the least", () -> x.wants(0, 1));
        c.granted(x, 9, "the most", () -> x.wants(1, 1));
        c.granted(x, 0, "another house", () -> x.wants(0, 2));
        c.granted(x, 0, "his own", () -> x.wants(0, 0));
        c.granted(x, 0, "another one", () -> x.wants(2, 0));
    }

    static void promise09_theLastOfAllIsTold(Check c) {
        OtherTown x = Check.town(Edges.FULL + ";wants o f 7;wants t c 8");
        c.granted(x, 7, "o, f", () -> x.wants(4, 5));
        c.granted(x, 8, "t, c", () -> x.wants(9, 2));
        c.granted(x, 0, "t, f", () -> x.wants(9, 5));
    }

    static void promise09_thereIsNoSuchPersonOrHouse(Check c) {
        OtherTown x = Check.town(FULL);
        for (int p : new int[] {-1, 10, Edges.MOST, Edges.LEAST}) {
            c.refused(x, 1, "person " + p, () -> x.wants(p, 0));
        }
        for (int h : new int[] {-1, 6, Edges.MOST, Edges.LEAST}) {
            c.refused(x, 1, "house " + h, () -> x.wants(0, h));
        }
    }

    public static void main(String[] args) {
        Edges.run(EdgesToldTest.class);
    }
}
