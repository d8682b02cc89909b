/** Boundary cases of promises 37 to 40: KEEPING a HOUSE. */
public final class EdgesBargainTest {
    private static final int[] NO_HOUSES = {-1, -2, 3, Edges.MOST, Edges.LEAST};
    private static final int[] NO_RULES = {-1, 5, Edges.MOST, Edges.LEAST};
    private static final int[] NO_LENGTHS = {0, -1, 101, Edges.MOST, Edges.LEAST};

    /** House 0 has no keeps, house 1 has; house 2 is the last. */
    private static OtherTown keeping(String keeps) {
        return Check.town(Edges.SMALL + ";keeps c " + keeps);
    }

    private static void restsDue(Check c, int due, String keeps) {
        OtherTown x = keeping(keeps);
        c.granted(x, due, "rests of " + keeps, () -> x.rests(1));
    }

    private static void holdsDue(Check c, int upper, int lower, String keeps) {
        OtherTown x = keeping(keeps);
        c.granted(x, upper, "upper of " + keeps, () -> x.holds(1, false));
        c.granted(x, lower, "lower of " + keeps, () -> x.holds(1, true));
    }

    // ---- promise 37: rests

    static void promise37_bothKeepUnlessOneHasMoreByStopping(Check c) {
        restsDue(c, 1, "5 9 4 0");
        restsDue(c, 1 + 2, "5 9 5 0");
        restsDue(c, 2, "5 9 6 0");
    }

    static void promise37_oneAloneUnlessEitherHasMore(Check c) {
        // he by stopping: the fourth above the second
        restsDue(c, 2, "1 5 5 4");
        restsDue(c, 2 + 4, "1 5 5 5");
        restsDue(c, 4, "1 5 5 6");
        // the other one by keeping: the first above the third
        restsDue(c, 2, "4 5 5 0");
        restsDue(c, 1 + 2, "5 5 5 0");
        restsDue(c, 1, "6 5 5 0");
    }

    static void promise37_neitherUnlessOneHasMoreByKeeping(Check c) {
        restsDue(c, 4, "0 4 9 5");
        restsDue(c, 2 + 4, "0 5 9 5");
        restsDue(c, 2, "0 6 9 5");
    }

    static void promise37_allOfThemAtTheirLeastAndMost(Check c) {
        restsDue(c, 7, "0 0 0 0");
        restsDue(c, 7, "99 99 99 99");
        restsDue(c, 1 + 4, "99 0 0 99");
    }

    static void promise37_noSuchHouseAndNoKeeps(Check c) {
        OtherTown x = keeping("1 1 1 1");
        for (int h : NO_HOUSES) {
            c.refused(x, 1, "rests " + h, () -> x.rests(h));
        }
        c.refused(x, 6, "house 0", () -> x.rests(0));
        c.refused(x, 6, "house 2", () -> x.rests(2));
        OtherTown none = new OtherTown();
        c.refused(none, 1, "without TOWNS", () -> none.rests(0));
    }

    // ---- promise 38: holds

    static void promise38_is0By1IfTheThirdIsNoMoreThanTheFirst(Check c) {
        holdsDue(c, 0, 1, "5 0 5 0");
        holdsDue(c, 0, 1, "5 0 4 0");
        holdsDue(c, 0, 1, "0 0 0 0");
        // even if the first is no more than the fourth
        holdsDue(c, 0, 1, "5 0 5 9");
        holdsDue(c, 0, 1, "0 0 0 99");
    }

    static void promise38_isNoneIfTheFirstIsNoMoreThanTheFourth(Check c) {
        holdsDue(c, -2, -2, "5 0 6 5");
        holdsDue(c, -2, -2, "5 0 6 6");
        holdsDue(c, -2, -2, "5 0 6 99");
        holdsDue(c, -2, -2, "0 0 99 0");
    }

    static void promise38_elseTheFractionInLowestTerms(Check c) {
        holdsDue(c, 1, 2, "5 0 6 4");
        holdsDue(c, 1, 99, "98 0 99 0");
        holdsDue(c, 98, 99, "1 0 99 0");
        holdsDue(c, 1, 2, "50 0 99 1");
        holdsDue(c, 1, 2, "5 0 7 3");
        holdsDue(c, 2, 3, "5 0 9 3");
        holdsDue(c, 2, 3, "33 0 99 0");
        holdsDue(c, 1, 3, "66 0 99 0");
        holdsDue(c, 89, 97, "10 0 99 2");
    }

    static void promise38_theSecondIsAside(Check c) {
        holdsDue(c, 1, 2, "5 99 6 4");
        holdsDue(c, -2, -2, "5 99 6 5");
    }

    static void promise38_noSuchHouseAndNoKeeps(Check c) {
        OtherTown x = keeping("1 1 1 1");
        for (int h : NO_HOUSES) {
            c.refused(x, 1, "upper " + h, () -> x.holds(h, false));
            c.refused(x, 1, "lower " + h, () -> x.holds(h, true));
        }
        c.refused(x, 6, "house 0", () -> x.holds(0, false));
        c.refused(x, 6, "house 2", () -> x.holds(2, true));
    }

    // ---- promise 39: plays

    static void promise39_oneNightAndAHundred(Check c) {
        OtherTown x = keeping("7 1 99 3");
        c.granted(x, 99, "one night", () -> x.plays(1, 1, 0, 1));
        c.granted(x, 9900, "a hundred", () -> x.plays(1, 1, 0, 100));
        c.granted(x, 99 + 99 * 3, "a hundred against one who stops", () -> x.plays(1, 1, 3, 100));
        OtherTown none = keeping("0 0 0 0");
        c.granted(none, 0, "the least", () -> none.plays(1, 0, 0, 100));
    }

    static void promise39_otherLengthsAreRefused(Check c) {
        OtherTown x = keeping("7 1 9 3");
        for (int n : NO_LENGTHS) {
            c.refused(x, 2, "plays " + n, () -> x.plays(1, 0, 0, n));
        }
    }

    static void promise39_eachRuleInItsFirstNight(Check c) {
        OtherTown x = keeping("7 1 9 3");
        int[] keeps = {1, 0, 1, 1, 1};
        for (int one = 0; one < 5; one++) {
            for (int other = 0; other < 5; other++) {
                int a = one;
                int b = other;
                int due = keeps[a] == 1 ? keeps[b] == 1 ? 7 : 1 : keeps[b] == 1 ? 9 : 3;
                c.granted(x, due, a + " and " + b, () -> x.plays(1, a, b, 1));
            }
        }
    }

    static void promise39_rule2DoesAsTheOtherDidLast(Check c) {
        OtherTown x = keeping("7 1 9 3");
        // against 4: keep keep, keep not, not keep, keep not
        c.granted(x, 7 + 1 + 9 + 1, "of 2 against 4", () -> x.plays(1, 2, 4, 4));
        c.granted(x, 7 + 9 + 1 + 9, "of 4 against 2", () -> x.plays(1, 4, 2, 4));
    }

    static void promise39_rule3NeverKeepsAgain(Check c) {
        OtherTown x = keeping("7 1 9 3");
        // against 4: keep keep, keep not, not keep, not not, not keep
        c.granted(x, 7 + 1 + 9 + 3 + 9, "of 3 against 4", () -> x.plays(1, 3, 4, 5));
        c.granted(x, 7 + 9 + 1 + 3 + 1, "of 4 against 3", () -> x.plays(1, 4, 3, 5));
    }

    static void promise39_noSuchHouseOrRules(Check c) {
        OtherTown x = keeping("7 1 9 3");
        for (int h : NO_HOUSES) {
            c.refused(x, 1, "house " + h, () -> x.plays(h, 0, 0, 1));
        }
        for (int rule : NO_RULES) {
            c.refused(x, 1, "the one's " + rule, () -> x.plays(1, rule, 0, 1));
            c.refused(x, 1, "the other's " + rule, () -> x.plays(1, 0, rule, 1));
        }
    }

    static void promise39_1AheadOf6And6AheadOf2(Check c) {
        OtherTown x = keeping("7 1 9 3");
        c.refused(x, 6, "no keeps", () -> x.plays(0, 4, 4, 100));
        c.refused(x, 6, "no keeps, no such length", () -> x.plays(0, 0, 0, 0));
        c.refused(x, 1, "no keeps, no such rule", () -> x.plays(0, 5, 0, 1));
        c.refused(x, 1, "no such rule, no such length", () -> x.plays(1, 0, 5, 101));
        c.refused(x, 1, "no such house, no such length", () -> x.plays(3, 0, 0, 0));
    }

    // ---- promise 40: bestRule

    static void promise40_ofLikeOnesTheFirst(Check c) {
        OtherTown x = keeping("4 4 4 4");
        c.granted(x, 0, "one night", () -> x.bestRule(1, 1));
        c.granted(x, 0, "a hundred", () -> x.bestRule(1, 100));
        OtherTown zero = keeping("0 0 0 0");
        c.granted(zero, 0, "all 0", () -> zero.bestRule(1, 7));
    }

    static void promise40_oneNight(Check c) {
        // all but 1 keep the first night: 0, 2, 3, 4 are alike then
        OtherTown stops = keeping("5 0 6 0");
        c.granted(stops, 1, "never", () -> stops.bestRule(1, 1));
        OtherTown keeps = keeping("6 0 5 0");
        c.granted(keeps, 0, "always, the first of four", () -> keeps.bestRule(1, 1));
    }

    static void promise40_aHundredNights(Check c) {
        // together: 1750, 2304, 2195, 2391, 1712
        OtherTown x = keeping("5 0 6 4");
        c.granted(x, 3, "the most of all five together", () -> x.bestRule(1, 100));
        c.granted(x, 495, "of it against 4", () -> x.plays(1, 3, 4, 100));
        c.granted(x, 299, "of 2 against 4", () -> x.plays(1, 2, 4, 100));
    }

    static void promise40_eachRuleIsTheBestOfSomeKeeps(Check c) {
        OtherTown first = keeping("9 9 0 0");
        c.granted(first, 0, "0", () -> first.bestRule(1, 50));
        OtherTown second = keeping("0 0 9 9");
        c.granted(second, 1, "1", () -> second.bestRule(1, 50));
        // three nights: 33, 30, 36, 36, 28; four: 42, 40, 47, 49, 38
        OtherTown third = keeping("3 0 2 2");
        c.granted(third, 2, "2", () -> third.bestRule(1, 3));
        c.granted(third, 3, "3", () -> third.bestRule(1, 4));
        // 110, 125, 100, 95, 135
        OtherTown last = keeping("3 8 8 3");
        c.granted(last, 4, "4", () -> last.bestRule(1, 5));
    }

    /** Keeps by which another rule were the best if one of the other one's five were left out, or counted twice. */
    static void promise40_allFiveOfTheOtherOneOnceEach(Check c) {
        // 39, 64, 34, 34, 60; without the other's rule 0 36, 40, 31, 31, 50
        OtherTown zero = keeping("1 7 8 1");
        c.granted(zero, 1, "with rule 0", () -> zero.bestRule(1, 3));
        // 99, 81, 105, 105, 83; without rule 1 99, 69, 97, 97, 79
        OtherTown one = keeping("9 0 7 4");
        c.granted(one, 2, "with rule 1", () -> one.bestRule(1, 3));
        // 67, 90, 61, 60, 87; without rule 2 62, 66, 56, 55, 72
        OtherTown two = keeping("1 7 0 6");
        c.granted(two, 1, "with rule 2", () -> two.bestRule(1, 5));
        // 108, 125, 124, 127, 103; without rule 3 78, 105, 94, 97, 86; without rule 4 90, 95, 102, 102, 79
        OtherTown more = keeping("6 0 8 3");
        c.granted(more, 3, "with rules 3 and 4", () -> more.bestRule(1, 5));
    }

    static void promise40_otherLengthsAreRefused(Check c) {
        OtherTown x = keeping("7 1 9 3");
        for (int n : NO_LENGTHS) {
            c.refused(x, 2, "bestRule " + n, () -> x.bestRule(1, n));
        }
    }

    static void promise40_1AheadOf6And6AheadOf2(Check c) {
        OtherTown x = keeping("7 1 9 3");
        for (int h : NO_HOUSES) {
            c.refused(x, 1, "house " + h, () -> x.bestRule(h, 0));
        }
        c.refused(x, 6, "no keeps", () -> x.bestRule(0, 1));
        c.refused(x, 6, "no keeps, no such length", () -> x.bestRule(2, 101));
    }

    public static void main(String[] args) {
        Edges.run(EdgesBargainTest.class);
    }
}
