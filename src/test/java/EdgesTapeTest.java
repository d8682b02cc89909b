/** Boundary cases of promises 1 to 3: a new object, THE TAPE, and what the TOWNS have room for. */
public final class EdgesTapeTest {
    private static final String T = "towns vow 1 month 0 wide 1 turn 0";
    private static final String H = T + ";house h left beds 1;house k right beds 2";
    private static final String P = H + ";person p plain of h walks 1 kin 0;person q light of k walks 1 kin 0";

    private static final String ALL = Edges.FULL + Edges.FULL_FOES + Edges.FULL_WANTS + Edges.FULL_KEEPS + ";ill 100"
            + Edges.FULL_CLUES;

    private static String filled(String text, int size) {
        return text + " ".repeat(size - text.length());
    }

    // ---- promise 1: no TOWNS

    static void promise01_allSizesAre0(Check c) {
        OtherTown x = new OtherTown();
        for (int what = 0; what <= 13; what++) {
            c.due("size " + what, x.size(what), 0);
        }
    }

    static void promise01_nobodyIsInTheChurch(Check c) {
        c.due("led 0", Check.led(new OtherTown(), 0), -3);
    }

    static void promise01_noCallWasRefusedYet(Check c) {
        OtherTown x = new OtherTown();
        c.due("trouble", x.trouble(), 0);
        c.due("fault", x.fault(), 0);
        c.due("where", x.where(), -1);
    }

    static void promise01_whatIsAskedOfTownsIsRefused(Check c) {
        OtherTown x = new OtherTown();
        c.refused(x, 1, "house", () -> x.house(0, 0));
        c.refused(x, 1, "person", () -> x.person(0, 0));
        c.refused(x, 1, "houseOf", () -> x.houseOf(0));
        c.refused(x, 1, "wants", () -> x.wants(0, 0));
        c.refused(x, 1, "bed", () -> x.bed(0));
        c.refused(x, 1, "who", () -> x.who(0));
        c.refused(x, 1, "wrong", () -> x.wrong(0));
        c.refused(x, 1, "firstWrong", x::firstWrong);
        c.refused(x, 1, "wrongIn", () -> x.wrongIn(0, 0));
        c.refused(x, 1, "turnsOf", () -> x.turnsOf(0));
        c.refused(x, 1, "ago", () -> x.ago(0, 0));
        c.refused(x, 1, "slept", () -> x.slept(0));
        c.refused(x, 1, "knows", () -> x.knows(0));
        c.refused(x, 1, "leaked", () -> x.leaked(0));
        c.refused(x, 1, "peace", x::peace);
        c.refused(x, 1, "guests", () -> x.guests(0));
        c.refused(x, 1, "together", () -> x.together(0, 1));
        c.refused(x, 1, "best", () -> x.best(0));
        c.refused(x, 1, "could", () -> x.could(0));
        c.refused(x, 1, "surely", () -> x.surely(0));
        c.refused(x, 1, "fitsWith", () -> x.fitsWith(0, -2));
        c.refused(x, 1, "crossed", x::crossed);
        c.refused(x, 1, "peaceIn", x::peaceIn);
        c.refused(x, 1, "churchIn", () -> x.churchIn(0));
        c.refused(x, 1, "knowsIn", () -> x.knowsIn(0, 0));
        c.refused(x, 1, "leaksIn", () -> x.leaksIn(0));
        c.refused(x, 1, "rests", () -> x.rests(0));
        c.refused(x, 1, "holds", () -> x.holds(0, false));
        c.refused(x, 1, "plays", () -> x.plays(0, 0, 0, 1));
        c.refused(x, 1, "bestRule", () -> x.bestRule(0, 1));
    }

    static void promise01_thereIsNoSideAndNoOrderYet(Check c) {
        OtherTown x = new OtherTown();
        for (int side = 0; side <= 1; side++) {
            int s = side;
            c.refused(x, 1, "worth", () -> x.worth(s));
            c.refused(x, 1, "rows", () -> x.rows(s));
            c.refused(x, 1, "bestChurch", () -> x.bestChurch(s));
            c.refused(x, 1, "bestWorth", () -> x.bestWorth(s));
            c.refused(x, 1, "fair", () -> x.fair(s));
            c.refused(x, 1, "swap", () -> x.swap(s));
            c.refused(x, 1, "fits", () -> x.fits(s));
            c.refused(x, 1, "ask", () -> x.ask(s));
            c.refused(x, 1, "laysBest", () -> x.laysBest(s));
        }
        for (int order = 0; order <= 2; order++) {
            int o = order;
            c.refused(x, 1, "bridge", () -> x.bridge(o, false));
            c.refused(x, 1, "lastOver", () -> x.lastOver(o));
        }
    }

    static void promise01_noActIsDone(Check c) {
        OtherTown x = new OtherTown();
        c.refuses(x, 1, "lays", () -> x.lays(0, -2));
        c.refused(x, 1, "night", x::night);
        c.refused(x, 1, "nights", () -> x.nights(1));
        c.refuses(x, 1, "seed", () -> x.seed(0));
        c.refuses(x, 6, "undo", x::undo);
        c.refused(x, 1, "image", x::image);
        c.refuses(x, 1, "back", () -> x.back(0));
        c.due("acts, images, seed", x.size(11) + x.size(12) + x.size(10), 0);
    }

    static void promise01_objectsHaveNothingInCommon(Check c) {
        OtherTown one = Check.town(P);
        one.lays(0, 1);
        OtherTown other = new OtherTown();
        c.due("people of the other", other.size(6), 0);
        Check.tell(other, P.replace("beds 2", "beds 3"));
        c.due("beds of the one", one.size(5), 3);
        c.due("bed of the other", other.bed(0), -2);
        c.due("bed of the one", one.bed(0), 1);
    }

    // ---- promise 2: feed

    static void promise02_answersHowManyItHas(Check c) {
        OtherTown x = new OtherTown();
        for (int i = 1; i <= 45; i++) {
            c.due("feed " + i, x.feed(0, 0, 0, 0, 0), 20 * i);
            c.due("size 13", x.size(13), 20 * i);
        }
    }

    static void promise02_moreThan900AreRefused(Check c) {
        OtherTown x = new OtherTown();
        for (int i = 1; i <= 45; i++) {
            x.feed(0, 0, 0, 0, 0);
        }
        c.due("feed 46", x.feed(0, 0, 0, 0, 0), -1);
        c.due("feed 47", x.feed(1, 2, 3, 4, 5), -1);
    }

    static void promise02_noneComesOfARefusedOne(Check c) {
        OtherTown x = new OtherTown();
        Check.feed(x, filled(ALL, 900));
        c.due("refused", x.feed(0x2e2e2e2e, 0x2e2e2e2e, 0x2e2e2e2e, 0x2e2e2e2e, 0x2e2e2e2e), -1);
        c.due("tape", x.size(13), 900);
        c.due("what stood there stands", x.towns(900), 10);
    }

    static void promise02_ofEachNumberTheHighestByteFirst(Check c) {
        OtherTown x = new OtherTown();
        // "towns vow 1 month 0 " with a full stop at one place of the twenty: FAULT 1 just there
        int[] good = {0x746f776e, 0x7320766f, 0x77203120, 0x6d6f6e74, 0x68203020};
        for (int place = 0; place < 20; place++) {
            int[] f = good.clone();
            int shift = 24 - place % 4 * 8;
            f[place / 4] = f[place / 4] & ~(255 << shift) | '.' << shift;
            x.feed(f[0], f[1], f[2], f[3], f[4]);
            x.towns(20);
            int begins = place > 0 && place < 5 ? 0 : place > 6 && place < 9 ? 6 : place > 12 && place < 17 ? 12 : place;
            c.due("fault of " + place, x.fault(), 1);
            c.due("where of " + place, x.where(), begins);
        }
    }

    static void promise02_bytesAbove127AreNoNegativeOnes(Check c) {
        OtherTown x = new OtherTown();
        // 0xff, 0x80: neither blanks nor letters wherever they stand in the number
        int[] odd = {0xff202020, 0x20ff2020, 0x2020ff20, 0x202020ff, 0x80202020, 0x20802020, 0x20208020, 0x20202080};
        for (int i = 0; i < odd.length; i++) {
            x.feed(0x20202020, odd[i], 0x20202020, 0x20202020, 0x20202020);
            x.towns(20);
            c.due("where", x.where(), 4 + i % 4);
        }
        // the letters with their highest bit set are no letters: "towns" so
        x.feed(0xf46f776e, 0x73202020, 0x20202020, 0x20202020, 0x20202020);
        x.towns(20);
        c.due("fault", x.fault(), 1);
        c.due("where", x.where(), 0);
    }

    static void promise02_leavesTroubleWhetherRefusedOrNot(Check c) {
        OtherTown x = new OtherTown();
        x.bed(0);
        x.feed(0, 0, 0, 0, 0);
        c.due("trouble", x.trouble(), 1);
        x.towns(20);
        c.due("trouble", x.trouble(), 4);
        for (int i = 0; i < 45; i++) {
            x.feed(0, 0, 0, 0, 0);
        }
        c.due("refused", x.feed(0, 0, 0, 0, 0), -1);
        c.due("trouble", x.trouble(), 4);
        c.due("where", x.where(), 0);
    }

    static void promise02_leavesTheTownsAndActs(Check c) {
        OtherTown x = Check.lie(P, 0, 1);
        x.image();
        x.feed(0, 0, 0, 0, 0);
        c.due("people", x.size(6), 2);
        c.due("bed", x.bed(0), 1);
        c.due("acts", x.size(11), 1);
        c.due("images", x.size(12), 1);
    }

    // ---- promise 3: towns, its number

    static void promise03_belowNoneIsNoNumber(Check c) {
        OtherTown x = new OtherTown();
        Check.feed(x, P);
        int had = x.size(13);
        c.refused(x, 2, "-1", () -> x.towns(-1));
        c.refused(x, 2, "-20", () -> x.towns(-20));
        c.refused(x, 2, "the least", () -> x.towns(Edges.LEAST));
        c.due("THE TAPE stays", x.size(13), had);
        c.due("what stands on it too", x.towns(P.length()), 2);
    }

    static void promise03_moreThanTheTapeHasIsNoNumber(Check c) {
        OtherTown x = new OtherTown();
        c.refused(x, 2, "1 of none", () -> x.towns(1));
        Check.feed(x, P);
        int had = x.size(13);
        c.refused(x, 2, "one more", () -> x.towns(had + 1));
        c.refused(x, 2, "900", () -> x.towns(900));
        c.refused(x, 2, "the most", () -> x.towns(Edges.MOST));
        c.due("THE TAPE stays", x.size(13), had);
        c.due("all of it", x.towns(had), 2);
    }

    static void promise03_refusedBy2TheTownsStay(Check c) {
        OtherTown x = Check.lie(P, 0, 1);
        x.night();
        x.image();
        x.feed(0, 0, 0, 0, 0);
        String before = Check.all(x);
        c.refused(x, 2, "21", () -> x.towns(21));
        c.due("all", Check.all(x), before);
        c.due("fault", x.fault(), 0);
    }

    static void promise03_refusedBy4TheTownsStayAndTheTapeIsEmpty(Check c) {
        OtherTown x = Check.lie(P + ";ill 50", 0, 1, 1, 0);
        x.seed(7);
        x.night();
        x.image();
        x.lays(0, -2);
        String before = Check.all(x);
        c.refused(x, 4, "a text with a FAULT", () -> Check.tell(x, P.replace("beds 2", "beds 3") + ";ill 101"));
        c.due("all", Check.all(x), before);
        c.due("THE TAPE", x.size(13), 0);
        c.due("houses", x.house(1, 1), 2);
        c.due("what was slept in", x.ago(0, 1), 1);
        c.grants(x, "undo", x::undo);
        c.due("bed", x.bed(0), 1);
        c.grants(x, "back", () -> x.back(0));
        // 75 * 7 + 74 = 599, 75 * 599 + 74 = 44999
        c.due("seed", x.size(10), 44999);
    }

    static void promise03_noByteAtAllIsAFaultNotANumber(Check c) {
        OtherTown x = new OtherTown();
        c.refused(x, 4, "0 of none", () -> x.towns(0));
        c.due("fault", x.fault(), 1);
        Check.feed(x, P);
        c.refused(x, 4, "0 of some", () -> x.towns(0));
        c.due("where", x.where(), 0);
        c.due("THE TAPE is empty then", x.size(13), 0);
    }

    static void promise03_theFirstBytesAloneAreRead(Check c) {
        OtherTown x = new OtherTown();
        Check.feed(x, P + ";ill 77");
        c.granted(x, 2, "without the last LINE", () -> x.towns(P.length()));
        c.due("ill", x.size(7), 0);
        Check.feed(x, P + "9");
        c.granted(x, 2, "without the last byte", () -> x.towns(P.length()));
        c.due("kin", x.person(1, 4), 0);
    }

    static void promise03_theTapeIsEmptyThen(Check c) {
        OtherTown x = new OtherTown();
        Check.feed(x, P + ";ill 77");
        x.towns(P.length());
        c.due("tape", x.size(13), 0);
        c.refused(x, 2, "nothing is left", () -> x.towns(1));
        c.due("feed anew", x.feed(0, 0, 0, 0, 0), 20);
    }

    static void promise03_the900thByteIsRead(Check c) {
        String head = H + ";person p plain of h walks 1 kin";
        OtherTown x = Check.town(filled(head, 899) + "7");
        c.due("kin", x.person(0, 4), 7);
        c.due("trouble", x.trouble(), 0);
        OtherTown y = new OtherTown();
        c.due("a FAULT there", Check.tell(y, filled(P, 899) + "."), -1);
        c.due("where", y.where(), 899);
    }

    static void promise03_900BytesEndAt900(Check c) {
        OtherTown x = new OtherTown();
        c.due("no people", Check.tell(x, filled(H, 900)), -1);
        c.due("fault", x.fault(), 6);
        c.due("where", x.where(), 900);
    }

    // ---- promise 3: how the TOWNS begin

    static void promise03_allAreInTheChurchAtFirst(Check c) {
        OtherTown x = Check.town(ALL);
        for (int p = 0; p < 10; p++) {
            c.due("bed " + p, x.bed(p), -2);
            c.due("led " + p, Check.led(x, p), p);
        }
    }

    static void promise03_noNightYetNobodyIllSeed0(Check c) {
        OtherTown x = Check.town(ALL);
        c.due("nights", x.size(9), 0);
        c.due("seed", x.size(10), 0);
        for (int p = 0; p < 10; p++) {
            c.due("ill " + p, x.person(p, 6), 0);
            c.due("turns " + p, x.turnsOf(p), 0);
            c.due("slept " + p, x.slept(p), 0);
            c.due("ago " + p, x.ago(p, 11 - p), -2);
        }
    }

    static void promise03_newTownsForgetAllThatWas(Check c) {
        OtherTown x = Check.lie(Edges.SMALL + ";ill 100", 0, 1, 1, 2, 2, 0);
        x.seed(9);
        x.night();
        x.lays(0, -2);
        x.lays(1, -2);
        x.lays(2, -2);
        x.night();
        x.image();
        c.due("together", x.together(0, 1), 1);
        c.due("a TURN", x.turnsOf(1), 1);
        c.granted(x, 3, "told anew", () -> Check.tell(x, Edges.SMALL));
        c.due("all as of a new object", Check.all(x), Check.all(Check.town(Edges.SMALL)));
        c.refuses(x, 6, "nothing to undo", x::undo);
        c.refuses(x, 1, "no IMAGES", () -> x.back(0));
        c.due("the first IMAGE again", x.image(), 0);
    }

    /** Told thrice, as what was told first must not come up again either. */
    static void promise03_newTownsForgetAllThatWasTold(Check c) {
        String kinds = Edges.SMALL.replace("k plain", "k snorer").replace("l plain", "l light").replace("m plain", "m child");
        OtherTown x = Check.town(kinds + ";foes k l;wants k c 9;wants l d 9;wants m a 9;keeps a 1 2 3 4;keeps d 1 2 3 4"
                + ";ill 100;shoe k c;shoe m a;cold c 0;cold a 0");
        String plain = Edges.SMALL.replace("l plain of a walks 1 kin 0", "l plain of a walks 1 kin 1");
        for (int again = 0; again < 2; again++) {
            c.granted(x, 3, "told anew", () -> Check.tell(x, plain));
            c.due("ill, CLUES", x.size(7) + x.size(8), 0);
            c.due("foes", x.person(0, 5) + x.person(1, 5), 0);
            c.due("wants", x.wants(0, 1) + x.wants(1, 2) + x.wants(2, 0), 0);
            c.due("keeps", x.house(0, 3) + x.house(2, 3), 0);
            c.due("fits left", x.fits(0), 13);
            c.due("fits right", x.fits(1), 2);
            c.due("rows", x.rows(0), 13);
            x.lays(0, 1);
            x.lays(1, 2);
            c.due("no snorer, no light one", x.firstWrong(), -2);
        }
        String child = plain.replace("k plain", "k child");
        Check.tell(x, Edges.SMALL);
        Check.tell(x, Edges.SMALL);
        Check.tell(x, child);
        x.lays(0, 1);
        x.lays(1, 2);
        c.due("no kin of the child now", x.wrong(0), 6);
    }

    static void promise03_answersHowManyPeople(Check c) {
        c.good(1, T + ";house h left beds 1;person p plain of h walks 1 kin 0");
        c.good(1, T + ";house h right beds 1;person p plain of h walks 1 kin 0");
        c.good(2, P);
        c.good(10, ALL);
    }

    static void promise03_allRoomsFullAtOnce(Check c) {
        OtherTown x = Check.town(ALL);
        int[] sizes = {6, 30, 3, 9, 6, 12, 10, 100, 6};
        for (int i = 0; i < sizes.length; i++) {
            c.due("size " + i, x.size(i), sizes[i]);
        }
        c.due("foes of k", x.person(0, 5), 32 + 64 + 128 + 256 + 512);
        c.due("the twelfth of the wants", x.wants(9, 0), 9);
        c.due("the sixth of the keeps", x.house(5, 3), 1);
    }

    // ---- promise 3: the bounds of each WHOLE

    /** A LINE with # for its WHOLE, behind what is told already: the least and the most are fine, the next aren't. */
    private static void bounds(Check c, String before, String line, int least, int most, String behind) {
        for (int good : new int[] {least, most}) {
            OtherTown x = new OtherTown();
            Check.tell(x, before + line.replace("#", "" + good) + behind);
            c.due("fault of " + line + " with " + good, x.fault(), 0);
        }
        int at = line.indexOf('#');
        for (int bad : new int[] {least - 1, most + 1, 999}) {
            if (bad >= 0) {
                c.faulty(4, before + line.substring(0, at) + "^" + bad + line.substring(at + 1) + behind);
            }
        }
    }

    private static final String BEHIND = ";house h left beds 1;house k right beds 2;person p plain of h walks 1 kin 0";

    static void promise03_vowIs1To6(Check c) {
        bounds(c, "", "towns vow # month 0 wide 1 turn 0", 1, 6, BEHIND);
    }

    static void promise03_monthIs0To30(Check c) {
        bounds(c, "", "towns vow 1 month # wide 1 turn 0", 0, 30, BEHIND);
    }

    static void promise03_wideIs1To3(Check c) {
        bounds(c, "", "towns vow 1 month 0 wide # turn 0", 1, 3, BEHIND);
    }

    static void promise03_turnIs0To9(Check c) {
        bounds(c, "", "towns vow 1 month 0 wide 1 turn #", 0, 9, BEHIND);
    }

    static void promise03_bedsAre1To3(Check c) {
        bounds(c, T, ";house z left beds #", 1, 3, BEHIND);
        bounds(c, T, ";house z right beds #", 1, 3, BEHIND);
    }

    static void promise03_walksAre1To9(Check c) {
        bounds(c, H, ";person p plain of h walks # kin 0", 1, 9, "");
    }

    static void promise03_kinIs0To9(Check c) {
        bounds(c, H, ";person p plain of h walks 1 kin #", 0, 9, "");
    }

    static void promise03_wantsAre1To9(Check c) {
        bounds(c, P, ";wants p k #", 1, 9, "");
    }

    static void promise03_eachOfTheKeepsIs0To99(Check c) {
        bounds(c, P, ";keeps h # 1 1 1", 0, 99, "");
        bounds(c, P, ";keeps h 1 # 1 1", 0, 99, "");
        bounds(c, P, ";keeps h 1 1 # 1", 0, 99, "");
        bounds(c, P, ";keeps h 1 1 1 #", 0, 99, "");
    }

    static void promise03_illIs0To100(Check c) {
        bounds(c, P, ";ill #", 0, 100, "");
    }

    static void promise03_aColdBedIsOneOfItsHouse(Check c) {
        String three = P.replace("beds 2", "beds 3");
        bounds(c, P, ";cold h #", 0, 0, "");
        bounds(c, P, ";cold k #", 0, 1, "");
        bounds(c, three, ";cold k #", 0, 2, "");
    }

    public static void main(String[] args) {
        Edges.run(EdgesTapeTest.class);
    }
}
