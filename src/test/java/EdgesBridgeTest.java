/** Boundary cases of promises 34 to 36: THE BRIDGE at six. */
public final class EdgesBridgeTest {
    /** Walkers as "a4": of the left one, four minutes; b is right. All lie in beds of the other side. */
    private static OtherTown walking(int wide, int turn, String... walkers) {
        StringBuilder b = new StringBuilder("towns vow 1 month 0 wide " + wide + " turn " + turn
                + ";house a left beds 3;house b right beds 3");
        for (int i = 0; i < walkers.length; i++) {
            b.append(";person ").append("klmnopqrst".charAt(i)).append(" plain of ").append(walkers[i].charAt(0))
                    .append(" walks ").append(walkers[i].substring(1)).append(" kin 0");
        }
        OtherTown x = Check.town(b.toString());
        for (int p = 0; p < walkers.length; p++) {
            x.lays(p, walkers[p].charAt(0) == 'a' ? 3 : 0);
        }
        return x;
    }

    private static final String[] TEN = {"a9", "b9", "a9", "b9", "a9", "b9", "a9", "b9", "a9", "b9"};

    // ---- promise 34: crossed

    static void promise34_is0IfNobodyWalks(Check c) {
        OtherTown x = walking(1, 9, "a9", "b9");
        x.lays(0, -2);
        c.granted(x, 9, "one", x::crossed);
        x.lays(1, -2);
        c.granted(x, 0, "none", x::crossed);
    }

    static void promise34_oneAloneNeedsHisWalk(Check c) {
        OtherTown quick = walking(1, 9, "a1");
        c.granted(quick, 1, "the quickest", quick::crossed);
        OtherTown slow = walking(3, 9, "b9");
        c.granted(slow, 9, "the slowest", slow::crossed);
    }

    static void promise34_oneLaneOneTurn(Check c) {
        OtherTown most = walking(1, 9, TEN);
        c.granted(most, 99, "ten: ninety and one turn", most::crossed);
        OtherTown none = walking(1, 0, TEN);
        c.granted(none, 90, "a turn of 0", none::crossed);
        OtherTown oneWay = walking(1, 9, "a9", "a9", "a9");
        c.granted(oneWay, 27, "one way needs none", oneWay::crossed);
    }

    static void promise34_threeLanesForTen(Check c) {
        // four of one way on a lane; the other two have three each, one lane with a turn
        OtherTown x = walking(3, 9, TEN);
        c.granted(x, 36, "36", x::crossed);
        OtherTown two = walking(2, 9, TEN);
        c.granted(two, 45, "two lanes, a way each", two::crossed);
    }

    static void promise34_moreLanesThanWalkers(Check c) {
        OtherTown x = walking(3, 9, "a4", "b7");
        c.granted(x, 7, "each has his own", x::crossed);
    }

    static void promise34_aTurnIsTakenWhereItIsLess(Check c) {
        // apart: 9 and 1, 10 on one lane; with a turn of 1 the one of the right goes behind the quick one
        OtherTown little = walking(2, 1, "a9", "a1", "b1");
        c.granted(little, 9, "a turn of 1", little::crossed);
        OtherTown big = walking(2, 9, "a5", "a4", "b5");
        c.granted(big, 9, "a turn of 9", big::crossed);
    }

    static void promise34_byWhateverLanesAndOrders(Check c) {
        // 35 minutes on two lanes: 9 and 8, 7 and 6 and 5
        OtherTown x = walking(2, 9, "a9", "a8", "a7", "a6", "a5");
        c.granted(x, 18, "one way", x::crossed);
        // 9 and 4 and 4, the other way 9 and 8; a turn were more than it helps
        OtherTown y = walking(2, 2, "a9", "a4", "a4", "b9", "b8");
        c.granted(y, 17, "both ways", y::crossed);
        // 4 and 4 and 3, the other way 4 and 4
        OtherTown v = walking(2, 9, "a4", "b4", "b4", "a4", "a3");
        c.granted(v, 11, "a lane for each way", v::crossed);
        // 36 minutes on three lanes: 12 each, 9 and 3 of one way, 7 and 5, 6 and 6
        OtherTown z = walking(3, 3, "a9", "a3", "b7", "b5", "a6", "a6");
        c.granted(z, 12, "three lanes", z::crossed);
        // 8 and 3 and 2, 7 and 6: a turn of 0 is none
        OtherTown w = walking(2, 0, "a8", "b7", "a6", "b3", "a2");
        c.granted(w, 13, "a turn of 0", w::crossed);
    }

    static void promise34_whatIsWrongTonightIsAside(Check c) {
        OtherTown x = walking(1, 2, "a3", "a4");
        x.lays(1, 0);
        c.due("on his own side", x.wrong(1), 1);
        c.granted(x, 7, "he walks too", x::crossed);
    }

    static void promise34_isRefusedWithoutTowns(Check c) {
        OtherTown x = new OtherTown();
        c.refused(x, 1, "crossed", x::crossed);
    }

    // ---- promise 35: bridge

    static void promise35_is0IfNobodyWalks(Check c) {
        OtherTown x = walking(2, 9, "a9");
        x.lays(0, -2);
        for (int order = 0; order < 3; order++) {
            int o = order;
            c.granted(x, 0, "over " + o, () -> x.bridge(o, false));
            c.granted(x, 0, "waits " + o, () -> x.bridge(o, true));
        }
    }

    static void promise35_theFirstOnALaneWaitsForNothing(Check c) {
        OtherTown x = walking(2, 9, "a9", "b9");
        for (int order = 0; order < 3; order++) {
            int o = order;
            c.granted(x, 9, "over " + o, () -> x.bridge(o, false));
            c.granted(x, 0, "waits " + o, () -> x.bridge(o, true));
        }
    }

    static void promise35_theMost(Check c) {
        OtherTown x = walking(1, 9, TEN);
        // ten walks of 9 and nine turns of 9; the i-th steps on behind i walks and i turns: 18 times 45
        c.granted(x, 171, "over", () -> x.bridge(0, false));
        c.granted(x, 810, "waits", () -> x.bridge(0, true));
    }

    static void promise35_ofLikeOnesByNumbers(Check c) {
        OtherTown x = walking(1, 5, "a3", "b3", "a3", "b1");
        // quick first: b1, a3, b3, a3: a turn each time, 10 minutes and 15; slow first: a3, b3, a3, b1
        c.granted(x, 25, "quick first", () -> x.bridge(1, false));
        c.granted(x, 6 + 14 + 22, "its waits", () -> x.bridge(1, true));
        c.granted(x, 25, "slow first", () -> x.bridge(2, false));
        c.granted(x, 8 + 16 + 24, "its waits", () -> x.bridge(2, true));
    }

    static void promise35_likeOnesAreNotTurnedRound(Check c) {
        // by whatever ORDER a, b, b: the second steps on at 8, the third at 11; the other way round it were 3 and 11
        OtherTown x = walking(1, 5, "a3", "b3", "b3");
        for (int order = 0; order < 3; order++) {
            int o = order;
            c.granted(x, 14, "over " + o, () -> x.bridge(o, false));
            c.granted(x, 19, "waits " + o, () -> x.bridge(o, true));
            c.granted(x, 2, "last " + o, () -> x.lastOver(o));
        }
    }

    static void promise35_theLaneFreeSoonestTheFirstSuch(Check c) {
        // both lanes free at 4: the third goes on the first lane, of his own way
        OtherTown first = walking(2, 9, "a4", "b4", "a1");
        c.granted(first, 5, "over", () -> first.bridge(0, false));
        c.granted(first, 4, "waits", () -> first.bridge(0, true));
        // the second lane is free sooner, though he must turn there
        OtherTown sooner = walking(2, 9, "a4", "b3", "a1");
        c.granted(sooner, 13, "over", () -> sooner.bridge(0, false));
        c.granted(sooner, 12, "waits", () -> sooner.bridge(0, true));
    }

    static void promise35_oneTurnsBehindTheOneAheadAlone(Check c) {
        // a, b, b: one turn; a, b, a: two
        OtherTown one = walking(1, 2, "a1", "b1", "b1");
        c.granted(one, 5, "one turn", () -> one.bridge(0, false));
        OtherTown two = walking(1, 2, "a1", "b1", "a1");
        c.granted(two, 7, "two turns", () -> two.bridge(0, false));
    }

    static void promise35_thereAreThreeOrders(Check c) {
        OtherTown x = walking(1, 2, "a1");
        OtherTown none = new OtherTown();
        for (int order : new int[] {-1, 3, Edges.MOST, Edges.LEAST}) {
            c.refused(x, 1, "over " + order, () -> x.bridge(order, false));
            c.refused(x, 1, "waits " + order, () -> x.bridge(order, true));
            c.refused(none, 1, "without TOWNS " + order, () -> none.bridge(order, true));
        }
        c.refused(none, 1, "without TOWNS", () -> none.bridge(0, false));
    }

    // ---- promise 36: lastOver

    static void promise36_isMinus2IfNobodyWalks(Check c) {
        OtherTown x = walking(2, 9, "a9");
        c.granted(x, 0, "one alone", () -> x.lastOver(0));
        x.lays(0, -2);
        for (int order = 0; order < 3; order++) {
            int o = order;
            c.granted(x, -2, "last " + o, () -> x.lastOver(o));
        }
    }

    static void promise36_ofLikeOnesTheLeastNumber(Check c) {
        OtherTown x = walking(3, 0, "a4", "b7", "a7");
        for (int order = 0; order < 3; order++) {
            int o = order;
            c.granted(x, 1, "two over at 7, by " + o, () -> x.lastOver(o));
        }
        // slow first: l and m 0-5, then k on the first lane 5-6 and o on the second 5-6
        OtherTown y = walking(2, 0, "a1", "a5", "a5", "a1");
        c.granted(y, 0, "k and n over at 6", () -> y.lastOver(2));
        // n steps on ahead of k, and both are over at one time
        OtherTown z = walking(2, 0, "a2", "a4", "a3", "a3");
        // slow first: l 0-4, m 0-3, n 3-6, k 4-6
        c.granted(z, 0, "the least, though he stepped on last", () -> z.lastOver(2));
    }

    static void promise36_number0AndTheLast(Check c) {
        OtherTown x = walking(1, 0, TEN);
        c.granted(x, 9, "by numbers the last", () -> x.lastOver(0));
        OtherTown y = walking(1, 0, "a9", "b1");
        c.granted(y, 0, "quick first: number 0", () -> y.lastOver(1));
        c.granted(y, 1, "slow first: number 1", () -> y.lastOver(2));
    }

    static void promise36_itIsNotWhoStepsOnLast(Check c) {
        OtherTown x = walking(2, 0, "a9", "a1", "a1");
        c.granted(x, 0, "k walks longest", () -> x.lastOver(0));
    }

    static void promise36_thereAreThreeOrders(Check c) {
        OtherTown x = walking(1, 2, "a1");
        OtherTown none = new OtherTown();
        for (int order : new int[] {-1, 3, Edges.MOST, Edges.LEAST}) {
            c.refused(x, 1, "last " + order, () -> x.lastOver(order));
            c.refused(none, 1, "without TOWNS " + order, () -> none.lastOver(order));
        }
        c.refused(none, 1, "without TOWNS", () -> none.lastOver(0));
    }

    public static void main(String[] args) {
        Edges.run(EdgesBridgeTest.class);
    }
}
