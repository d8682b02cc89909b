/** Promises 10 to 33: tonight, the best night, what was and is known, best nights to come. */
public final class NightsTest {
    private static final Check CHECK = new Check();

    /** Beds: a 0 1 2, b 3, c 4 5 6, d 7 8. */
    private static final String N = "towns vow 1 month 2 wide 1 turn 0;house a left beds 3;house b left beds 1"
            + ";house c right beds 3;house d right beds 2;person k snorer of a walks 1 kin 1"
            + ";person l light of a walks 1 kin 2;person m child of b walks 1 kin 1;person n plain of b walks 1 kin 1"
            + ";person o child of a walks 1 kin 2;person p plain of c walks 1 kin 3;person q child of d walks 1 kin 1"
            + ";foes k n;foes p l;wants k c 4;wants k d 2;wants n c 3;wants l d 9;wants p a 7";
    private static final int K = 0;
    private static final int L = 1;
    private static final int M = 2;
    private static final int NN = 3;
    private static final int O = 4;
    private static final int P = 5;
    private static final int Q = 6;

    /** Three of the left one, two beds: c 1, d 2. */
    private static final String R = "towns vow 1 month 0 wide 1 turn 0;house a left beds 1;house c right beds 1"
            + ";house d right beds 1;person k plain of a walks 1 kin 1;person l plain of a walks 1 kin 2"
            + ";person m plain of a walks 1 kin 3";
    private static final String RW = R + ";wants k d 5;wants l d 9;wants m c 1";

    private static void tonight() {
        OtherTown x = Check.town(N);
        for (int p = 0; p < 7; p++) {
            CHECK.due("bed " + p, x.bed(p), -2);
            CHECK.due("wrong " + p, x.wrong(p), 0);
        }
        CHECK.due("who", x.who(4), -2);
        CHECK.due("firstWrong", x.firstWrong(), -2);
        CHECK.due("worth", x.worth(0), 0);
        CHECK.due("trouble", x.trouble(), 0);
        x = Check.lie(N, K, 0);
        CHECK.due("his own side", x.wrong(K), 1);
        CHECK.due("his own house is no worth", x.worth(0), 0);
        x = Check.lie(N, NN, 4, K, 4);
        CHECK.due("who, the least", x.who(4), K);
        CHECK.due("somebody with a lesser number", x.wrong(NN), 2);
        CHECK.due("of the lesser number: a foe", x.wrong(K), 4);
        CHECK.due("firstWrong", x.firstWrong(), K);
        CHECK.due("worth", x.worth(0), 7);
        CHECK.due("worth of the other side", x.worth(1), 0);
        x = Check.lie(N, K, 4, NN, 6);
        CHECK.due("foes in one house", x.wrong(K), 4);
        CHECK.due("foes in one house", x.wrong(NN), 4);
        x = Check.lie(N, K, 4, NN, 7);
        CHECK.due("foes in two houses", x.wrong(K) + x.wrong(NN), 0);
        x = Check.lie(N, K, 4, L, 5);
        CHECK.due("a snorer by a light one", x.wrong(K), 5);
        CHECK.due("a light one by a snorer", x.wrong(L), 5);
        CHECK.due("elsewhere", x.wrongIn(L, 8), 0);
        CHECK.due("his own side", x.wrongIn(L, 3), 1);
        CHECK.due("in his bed", x.wrongIn(L, 4), 2);
        CHECK.due("it was asked alone", x.bed(L), 5);
        x = Check.lie(N, L, 5, P, 6);
        CHECK.due("one of the other side is a foe", x.wrong(L), 4);
        CHECK.due("but his own side comes first", x.wrong(P), 1);
        CHECK.due("firstWrong", x.firstWrong(), L);
        x = Check.lie(N, M, 4);
        CHECK.due("a child alone", x.wrong(M), 6);
        CHECK.due("firstWrong", x.firstWrong(), M);
        x.lays(O, 5);
        CHECK.due("two children", x.wrong(M), 6);
        x.lays(Q, 6);
        CHECK.due("a child of like kin", x.wrong(M), 6);
        x.lays(L, 6);
        CHECK.due("one of another kin", x.wrong(M), 6);
        CHECK.due("one of like kin", x.wrong(O), 0);
        x.lays(NN, 4);
        CHECK.due("minded in one bed", x.wrong(M), 0);
        x = Check.lie(N, M, 4, NN, 8);
        CHECK.due("minded in another house", x.wrong(M), 6);
        CHECK.due("asked where he is", x.wrongIn(M, 7), 0);
        x = Check.lie(N, P, 0);
        CHECK.due("worth right", x.worth(1), 7);
        CHECK.due("worth left", x.worth(0), 0);
        CHECK.no(x, "bed 7", x.bed(7), 1);
        CHECK.no(x, "bed -1", x.bed(-1), 1);
        CHECK.no(x, "who 9", x.who(9), 1);
        CHECK.no(x, "who -2", x.who(-2), 1);
        CHECK.no(x, "wrong 7", x.wrong(7), 1);
        CHECK.no(x, "wrongIn 7", x.wrongIn(7, 0), 1);
        CHECK.no(x, "wrongIn bed 9", x.wrongIn(0, 9), 1);
        CHECK.no(x, "wrongIn the church", x.wrongIn(0, -2), 1);
        CHECK.no(x, "worth 2", x.worth(2), 1);
        CHECK.no(x, "worth -1", x.worth(-1), 1);
    }

    private static void monthAndIll() {
        OtherTown x = Check.lie(N, K, 4, P, 0);
        CHECK.due("never", x.ago(K, 4), -2);
        CHECK.due("night", x.night(), 1);
        CHECK.due("tonight stays", x.bed(K), 4);
        CHECK.due("slept in it", x.wrong(K), 3);
        CHECK.due("ago", x.ago(K, 4), 1);
        CHECK.due("another bed of the house", x.wrongIn(K, 5), 0);
        CHECK.due("another one", x.wrongIn(L, 4), 2);
        CHECK.due("no night", x.night(), -1);
        CHECK.due("not so", x.trouble(), 5);
        x.lays(K, -2);
        x.lays(P, -2);
        CHECK.due("night", x.night(), 2);
        CHECK.due("two nights ago", x.wrongIn(K, 4), 3);
        CHECK.due("ago", x.ago(K, 4), 2);
        CHECK.due("night", x.night(), 3);
        CHECK.due("three nights ago", x.wrongIn(K, 4), 0);
        CHECK.due("ago", x.ago(K, 4), 3);
        CHECK.due("turns", x.turnsOf(K), 2);
        CHECK.due("turns", x.turnsOf(L), 3);
        x = Check.lie(N + ";ill 100", K, 4);
        CHECK.due("well", x.person(K, 6), 0);
        x.night();
        CHECK.due("ill", x.person(K, 6), 1);
        CHECK.due("ill in another bed", x.wrongIn(K, 7), 7);
        CHECK.due("nothing in the church", x.wrong(L), 0);
        CHECK.due("left rows", x.rows(0), 1);
        CHECK.due("all in the church", x.bestChurch(0), 5);
        CHECK.due("best", x.best(K), -2);
        // seven draws from SEED 0: 74, 5624, 28652, 51790, 17641, 12409, 13231
        x = Check.town(N + ";ill 60");
        x.night();
        int[] ill = {0, 1, 1, 0, 1, 1, 1};
        for (int p = 0; p < 7; p++) {
            CHECK.due("ill " + p, x.person(p, 6), ill[p]);
        }
        CHECK.due("seed", x.size(10), 13231);
        x = Check.town(N + ";ill 24");
        x.night();
        CHECK.due("24 is not below 24", x.person(1, 6), 0);
        CHECK.due("9 is", x.person(5, 6), 1);
        x = Check.town(N);
        x.night();
        CHECK.due("it is drawn without ill too", x.size(10), 13231);
    }

    private static void bestRows() {
        OtherTown x = Check.town(RW);
        // 1 with nobody, 3 * 2 with one, 6 with two in beds
        CHECK.due("rows", x.rows(0), 13);
        CHECK.due("rows without people", x.rows(1), 1);
        CHECK.due("bestChurch without people", x.bestChurch(1), 0);
        CHECK.due("bestWorth without people", x.bestWorth(1), 0);
        int[][] nights = {{-2, 2, 1, 10}, {1, 2, -2, 9}, {2, -2, 1, 6}, {-2, 2, 1, 10}};
        for (int n = 0; n < 4; n++) {
            for (int p = 0; p < 3; p++) {
                CHECK.due("best " + p + " in night " + n, x.best(p), nights[n][p]);
            }
            CHECK.due("bestChurch", x.bestChurch(0), 1);
            CHECK.due("bestWorth", x.bestWorth(0), nights[n][3]);
            CHECK.due("nothing was laid", x.bed(2), n == 0 ? -2 : nights[n - 1][2]);
            CHECK.due("laysBest", x.laysBest(0), 1);
            x.night();
        }
        x = Check.town(R);
        CHECK.due("the least bed first", x.best(0), 1);
        CHECK.due("then the next", x.best(1), 2);
        CHECK.due("the church behind all", x.best(2), -2);
        // the fewest in the church ahead of turns and worth
        x = Check.town(R.replace("beds 1", "beds 2") + ";foes k l;foes k m;foes l m;wants k c 9;wants l c 9;wants m c 9");
        CHECK.due("foes: two houses for three", x.bestChurch(0), 1);
        // one apart 1, each 4 beds * 3, two in two houses 3 * (2 * 2 * 2)
        CHECK.due("rows of foes", x.rows(0), 37);
        CHECK.due("their worth", x.bestWorth(0), 9);
        // a month longer than the beds: each bed is used once by each
        x = Check.town(RW.replace("month 0", "month 30"));
        x.nights(3);
        CHECK.due("all beds of all were used in three nights", x.rows(0), 1);
        CHECK.due("so all are in the church", x.bestChurch(0), 3);
        x = Check.town(N);
        // k and n are foes, k and l apart, o goes with l: k and m in d, the three others in c
        int[] row = {7, 4, 8, 5, 6};
        for (int p = 0; p < 5; p++) {
            CHECK.due("best with children " + p, x.best(p), row[p]);
        }
        CHECK.due("worth with children", x.bestWorth(0), 5);
        CHECK.no(x, "rows 2", x.rows(2), 1);
        CHECK.no(x, "best 7", x.best(7), 1);
        CHECK.no(x, "best -1", x.best(-1), 1);
        CHECK.no(x, "bestChurch -1", x.bestChurch(-1), 1);
        CHECK.no(x, "bestWorth 2", x.bestWorth(2), 1);
    }

    private static void known() {
        // beds: a 0, b 1, c 2 3, d 4; k and l are kin, n is at home with k
        OtherTown x = Check.town("towns vow 2 month 0 wide 1 turn 0;house a left beds 1;house b left beds 1"
                + ";house c right beds 2;house d right beds 1;person k plain of a walks 1 kin 1"
                + ";person l plain of b walks 1 kin 1;person m plain of d walks 1 kin 5;person n plain of a walks 1 kin 2"
                + ";person o plain of c walks 1 kin 5");
        CHECK.due("his home", x.knows(0), 1);
        CHECK.due("his home", x.knows(2), 8);
        CHECK.due("nothing leaked", x.leaked(0), 0);
        x.lays(0, 2);
        x.lays(1, 3);
        x.lays(2, 0);
        x.night();
        CHECK.due("kin in one house tell", x.knows(0), 1 | 2 | 4);
        CHECK.due("kin in one house tell", x.knows(1), 1 | 2 | 4);
        CHECK.due("then those of one home", x.knows(3), 1 | 2 | 4);
        CHECK.due("one of the right", x.knows(2), 1 | 8);
        CHECK.due("one in the church, alone at home", x.knows(4), 4);
        int[] leaked = {1, 0, 3, 0};
        int[] guests = {4, 0, 3, 0};
        for (int h = 0; h < 4; h++) {
            CHECK.due("leaked " + h, x.leaked(h), leaked[h]);
            CHECK.due("guests " + h, x.guests(h), guests[h]);
        }
        CHECK.due("slept", x.slept(0), 4);
        CHECK.due("slept", x.slept(3), 0);
        CHECK.due("together", x.together(0, 1), 1);
        CHECK.due("together", x.together(1, 0), 1);
        CHECK.due("not together", x.together(0, 2), 0);
        CHECK.due("in the church both", x.together(3, 4), 0);
        CHECK.due("fair", x.fair(0), 1);
        CHECK.due("fair", x.fair(1), 1);
        CHECK.due("peace", x.peace(), 0);
        x.lays(1, 4);
        x.night();
        CHECK.due("slept in two", x.slept(1), 4 | 8);
        CHECK.due("still once together", x.together(0, 1), 1);
        // by home alone: l of b knows d, k of a doesn't
        CHECK.due("not in one house", x.knows(0), 1 | 2 | 4);
        CHECK.due("by himself", x.knows(1), 1 | 2 | 4 | 8);
        CHECK.due("fair", x.fair(0), 2);
        CHECK.no(x, "together alike", x.together(1, 1), 1);
        CHECK.no(x, "together 5", x.together(1, 5), 1);
        CHECK.no(x, "turnsOf 5", x.turnsOf(5), 1);
        CHECK.no(x, "ago bed 5", x.ago(0, 5), 1);
        CHECK.no(x, "ago the church", x.ago(0, -2), 1);
        CHECK.no(x, "ago of 5", x.ago(5, 0), 1);
        CHECK.no(x, "slept 5", x.slept(5), 1);
        CHECK.no(x, "knows -1", x.knows(-1), 1);
        CHECK.no(x, "leaked 4", x.leaked(4), 1);
        CHECK.no(x, "guests 4", x.guests(4), 1);
        CHECK.no(x, "fair 2", x.fair(2), 1);
        CHECK.no(x, "swap 2", x.swap(2), 1);
        CHECK.due("fair without people", Check.town(R).fair(1), 0);
        // unlike kin in one house tell nothing
        x = Check.town(R.replace("house c right beds 1", "house c right beds 2").replace("house a left beds 1",
                "house a left beds 1;house b left beds 1").replace("person l plain of a", "person l plain of b"));
        x.lays(0, 2);
        x.lays(1, 3);
        x.night();
        CHECK.due("unlike kin", x.knows(0), 1 | 4);
        CHECK.due("unlike kin", x.knows(1), 2 | 4);
    }

    private static void peace() {
        OtherTown x = Check.town(R);
        x.lays(0, 1);
        x.lays(1, 2);
        x.night();
        CHECK.due("one hasn't slept there", x.peace(), 0);
        x.lays(0, -2);
        x.lays(2, 1);
        x.night();
        CHECK.due("a vow of one house", x.peace(), 1);
        x = Check.town(R.replace("vow 1", "vow 6"));
        for (int p = 0; p < 3; p++) {
            x.lays(p, 1);
            x.night();
            x.lays(p, 2);
            CHECK.due("not yet", x.peace(), 0);
            x.night();
            x.lays(p, -2);
        }
        CHECK.due("in all there are", x.peace(), 1);
        CHECK.due("no houses on the other side", Check.town("towns vow 6 month 0 wide 1 turn 0;house a left beds 1"
                + ";person k plain of a walks 1 kin 1").peace(), 1);
    }

    private static void swaps() {
        OtherTown x = Check.lie(RW, 0, 2, 1, 1);
        CHECK.due("worth", x.worth(0), 5);
        CHECK.due("swap", x.swap(0), 1);
        CHECK.due("worth is as it was", x.worth(0), 5);
        x.lays(0, 1);
        x.lays(1, 2);
        CHECK.due("no better one", x.swap(0), -2);
        CHECK.due("without people", x.swap(1), -2);
        // by most, the first such: beds c 1 2 3, d 4 5; pairs 0-1 brings 2, 0-2 brings 4, 1-3 brings 4
        String s = "towns vow 1 month 0 wide 1 turn 0;house a left beds 1;house c right beds 3;house d right beds 2"
                + ";person k plain of a walks 1 kin 1;person l plain of a walks 1 kin 2;person m plain of a walks 1 kin 3"
                + ";person n plain of a walks 1 kin 3;person o snorer of d walks 1 kin 3;wants k d 2;wants m c 2"
                + ";wants n c 2;wants l d 2";
        x = Check.lie(s, 0, 1, 1, 2, 2, 4, 3, 5);
        CHECK.due("swap", x.swap(0), 2);
        x.lays(0, -2);
        CHECK.due("one in the church isn't swapped", x.swap(0), 102);
        x.lays(0, 1);
        // anything wrong with any of the side: none
        x.lays(3, 4);
        CHECK.due("two in one bed", x.swap(0), -2);
        x.lays(3, 0);
        CHECK.due("one on his own side", x.swap(0), -2);
        x = Check.lie(s.replace("person k plain", "person k light"), 0, 1, 1, 2, 2, 4, 3, 5, 4, 3);
        CHECK.due("a snorer of the other side lies in c: k is not right before, is behind it", x.swap(0), 2);
        x = Check.lie(s.replace("person m plain", "person m light"), 0, 1, 1, 2, 2, 4, 3, 5, 4, 3);
        CHECK.due("m would lie by him: k and n, or l and n", x.swap(0), 3);
    }

    private static void toCome() {
        OtherTown x = Check.town(RW);
        CHECK.due("peaceIn", x.peaceIn(), 2);
        for (int n = 0; n <= 40; n++) {
            CHECK.due("churchIn " + n, x.churchIn(n), n);
        }
        CHECK.due("knowsIn 0", x.knowsIn(0, 0), 1);
        CHECK.due("knowsIn 1", x.knowsIn(0, 1), 7);
        CHECK.due("knowsIn 40", x.knowsIn(2, 40), 7);
        CHECK.due("leaksIn", x.leaksIn(1), 1);
        CHECK.due("nobody of the right", x.leaksIn(0), -2);
        CHECK.due("nothing has changed", x.size(9) + x.size(10) + x.size(11), 0);
        CHECK.no(x, "churchIn 41", x.churchIn(41), 2);
        CHECK.no(x, "churchIn -1", x.churchIn(-1), 2);
        CHECK.no(x, "knowsIn 41", x.knowsIn(0, 41), 2);
        CHECK.no(x, "knowsIn of 3", x.knowsIn(3, 41), 1);
        CHECK.no(x, "leaksIn 3", x.leaksIn(3), 1);
        x.nights(1);
        CHECK.due("peaceIn from now on", x.peaceIn(), 1);
        CHECK.due("leaksIn from now on", x.leaksIn(1), 0);
        x.undo();
        CHECK.due("peaceIn as before", x.peaceIn(), 2);
        // l is always in d, m always in c
        x = Check.town(RW.replace("vow 1", "vow 2"));
        CHECK.due("never peace", x.peaceIn(), -2);
        x = Check.town(R.replace("vow 1", "vow 2").replace("month 0", "month 30"));
        // k c, l d; k d, m c; l c, m d
        CHECK.due("a long month", x.peaceIn(), 3);
        // all ill from the first night on
        x = Check.town(R + ";ill 100");
        CHECK.due("ill: church", x.churchIn(3), 1 + 3 + 3);
        CHECK.due("ill: no peace", x.peaceIn(), -2);
        CHECK.due("ill: but what k and l learnt", x.knowsIn(2, 1), 7);
        x = Check.town(R + ";ill 50");
        // SEED 0: 74, 5624, 28652: l is ill; then 51790, 17641, 12409: l and m are
        CHECK.due("two nights: m at first, then l", x.churchIn(2), 2);
        CHECK.due("l and m in the third", x.churchIn(3), 4);
        x.seed(65536);
        // 75 * 65536 + 74 = 75 * 65537 - 1: 65536 again: 36 below 50, all ill for ever
        CHECK.due("another SEED", x.churchIn(3), 7);
        CHECK.due("the SEED stays", x.size(10), 65536);
    }

    /** One who is ill for long: by the draws alone, well again behind 40 nights, or behind 41. */
    private static void farOff() {
        String ill = "towns vow 1 month 0 wide 1 turn 0;house a left beds 1;house c right beds 1"
                + ";person k plain of a walks 1 kin 1;ill 97";
        OtherTown x = Check.town(ill);
        x.seed(0);
        x.night();
        CHECK.due("leaksIn 40", x.leaksIn(1), 40);
        CHECK.due("peaceIn 40", x.peaceIn(), 40);
        CHECK.due("churchIn 40", x.churchIn(40), 39);
        CHECK.due("knowsIn 39", x.knowsIn(0, 39), 1);
        CHECK.due("knowsIn 40", x.knowsIn(0, 40), 3);
        x.undo();
        x.seed(186);
        x.night();
        CHECK.due("leaksIn 41", x.leaksIn(1), -2);
        CHECK.due("peaceIn 41", x.peaceIn(), -2);
        x.nights(40);
        CHECK.due("leaksIn, then", x.leaksIn(1), 1);
        CHECK.due("peaceIn, then", x.peaceIn(), 1);
    }

    /** Bed 0 is a bed as all others are: two of the right in a, of like kin. */
    private static void firstBed() {
        String text = "towns vow 1 month 0 wide 1 turn 0;house a left beds 2;house b left beds 1;house c right beds 1"
                + ";house d right beds 1;person k plain of c walks 3 kin 1;person l plain of d walks 2 kin 1"
                + ";wants k b 3;wants l a 4";
        OtherTown x = Check.lie(text, 0, 0, 1, 1);
        CHECK.due("worth", x.worth(1), 4);
        CHECK.due("who", x.who(0), 0);
        CHECK.due("crossed", x.crossed(), 5);
        x.night();
        CHECK.due("they tell", x.knows(0), 1 | 4 | 8);
        CHECK.due("they tell", x.knows(1), 1 | 4 | 8);
        CHECK.due("together", x.together(0, 1), 1);
        CHECK.due("no turn", x.turnsOf(0), 0);
        CHECK.due("slept", x.slept(0), 1);
        x.lays(1, 2);
        CHECK.due("swap", x.swap(1), 1);
    }

    /** What other towns had told is gone. */
    private static void toldAnew() {
        String text = "towns vow 1 month 0 wide 1 turn 0;house a left beds 1;house c right beds 2"
                + ";person k child of a walks 1 kin 1;person l plain of a walks 1 kin 1";
        OtherTown x = Check.town(text + ";foes k l;wants k c 3;keeps a 1 1 1 1;shoe k c;cold c 0;ill 100");
        CHECK.due("fits: nobody could mind the child that lay there", x.fits(0), 0);
        CHECK.due("rows", x.rows(0), 3);
        Check.tell(x, text.replace("l plain of a walks 1 kin 1", "l snorer of a walks 1 kin 2"));
        x.lays(0, 1);
        x.lays(1, 2);
        CHECK.due("nobody of like kin", x.wrong(0), 6);
        CHECK.due("rows", x.rows(0), 3);
        CHECK.due("worth", x.worth(0), 0);
        CHECK.due("foes", x.person(0, 5), 0);
        CHECK.due("keeps", x.house(0, 3), 0);
        CHECK.due("fits", x.fits(0), 3);
        CHECK.due("ill", x.size(7), 0);
        Check.tell(x, text.replace("l plain", "l light"));
        x.lays(0, 1);
        x.lays(1, 2);
        CHECK.due("of like kin, no snorer now", x.firstWrong(), -2);
    }

    public static void main(String[] args) {
        farOff();
        firstBed();
        toldAnew();
        tonight();
        monthAndIll();
        bestRows();
        known();
        peace();
        swaps();
        toCome();
        CHECK.end();
    }
}
