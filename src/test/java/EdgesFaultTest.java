/** Boundary cases of promises 4 and 5: TOKENS, each FAULT and its place. */
public final class EdgesFaultTest {
    private static final String T = "towns vow 1 month 0 wide 1 turn 0";
    private static final String H = T + ";house h left beds 1;house k right beds 2";
    private static final String P = H + ";person p plain of h walks 1 kin 0;person q light of k walks 1 kin 0";
    private static final String[] KEPT_WORDS = {"towns", "house", "person", "foes", "wants", "keeps", "ill", "shoe",
        "cold"};

    // ---- promise 4: whose FAULT it is

    static void promise04_isNoneWithoutOne(Check c) {
        OtherTown x = new OtherTown();
        c.due("no towns() yet", x.fault(), 0);
        x.towns(-1);
        c.due("refused by 2 alone", x.fault(), 0);
        Check.tell(x, P);
        c.due("a good one", x.fault(), 0);
    }

    static void promise04_isOfTheLatestNotRefusedBy2(Check c) {
        OtherTown x = new OtherTown();
        Check.tell(x, P + ";ill 101");
        c.due("4", x.fault(), 4);
        x.towns(-1);
        c.due("-1 leaves it", x.fault(), 4);
        x.towns(1);
        c.due("too many leave it", x.fault(), 4);
        Check.tell(x, H);
        c.due("6", x.fault(), 6);
        Check.tell(x, P);
        c.due("none", x.fault(), 0);
        x.towns(901);
        c.due("still none", x.fault(), 0);
    }

    static void promise04_staysBehindOtherCalls(Check c) {
        OtherTown x = Check.town(P);
        Check.tell(x, H + ".");
        x.lays(0, 1);
        x.night();
        x.undo();
        x.bed(77);
        c.due("fault", x.fault(), 1);
        c.due("asked again", x.fault(), 1);
    }

    static void promise04_isTheFirstFromTheLeft(Check c) {
        c.faulty(4, "towns vow ^7 month 31 wide 4 turn 10");
        c.faulty(1, T + ";house h ^up beds 9;person h");
        c.faulty(2, P + ";foes ^x x;ill 101;.");
        c.faulty(7, P + ";wants p ^h 0");
        c.faulty(3, P + ";foes p ^p .");
        c.faulty(5, H + ";house b left beds 3;house d left beds ^3;house h");
        c.faulty(4, P + ";ill ^101.");
    }

    static void promise04_ofOnePlaceTheLeast(Check c) {
        // the end: no LINE goes on there, and there is no person
        c.faulty(1, T + ";house h left beds 1;^");
        c.faulty(1, T + ";house h left beds ^");
        // out of bounds, and too many on the SIDE
        c.faulty(4, T + ";house a left beds 3;house b left beds 3;house c left beds ^4");
        // no NAME, so it isn't asked whether it is told
        c.faulty(1, P + ";foes p ^house");
        // a person, so it isn't asked of which SIDE
        c.faulty(2, P + ";wants p ^p 1");
        c.faulty(2, P + ";shoe p ^q");
    }

    // ---- promise 4: FAULT 1, TOKENS

    static void promise04_wordsHaveUpTo8Letters(Check c) {
        c.good(1, T + ";house abcdefgh left beds 1;person stuvwxyz plain of abcdefgh walks 1 kin 0");
        c.faulty(1, T + ";house ^abcdefghi left beds 1");
        c.faulty(1, H + ";person ^abcdefghi plain of h walks 1 kin 0");
        c.faulty(1, P + ";foes p ^qqqqqqqqq");
        c.faulty(1, "^townstowns vow 1");
        c.faulty(1, T + ";house h left beds 1;" + "^" + "a".repeat(400));
    }

    static void promise04_8LettersAreToldApart(Check c) {
        c.good(2, T + ";house h left beds 1;person abcdefgh plain of h walks 1 kin 0"
                + ";person abcdefgi plain of h walks 1 kin 0;foes abcdefgh abcdefgi");
        c.good(2, T + ";house h left beds 1;person a plain of h walks 1 kin 0;person aa plain of h walks 1 kin 0");
        c.good(2, T + ";house h left beds 1;person z plain of h walks 1 kin 0;person zzzzzzzz plain of h walks 1 kin 0");
    }

    static void promise04_wholesHaveUpTo3Digits(Check c) {
        c.good(2, P + ";ill 007");
        c.good(2, P + ";ill 000");
        c.good(2, P + ";ill 100");
        c.faulty(1, P + ";ill ^0007");
        c.faulty(1, P + ";ill ^1000");
        c.faulty(1, P + ";ill ^" + "0".repeat(300));
        c.faulty(4, P + ";ill ^999");
        // 2^32 and 7: it is no 7
        c.faulty(1, P + ";ill ^4294967303");
    }

    static void promise04_blanksPartTokens(Check c) {
        c.faulty(1, "^to wns vow 1");
        c.faulty(1, P + ";ill 1 ^0");
        c.faulty(1, H + ";person p ^p plain of h walks 1 kin 0");
    }

    static void promise04_blanksMeanNothingElse(Check c) {
        c.good(2, "     " + P);
        c.good(2, P + "     ");
        c.good(2, P.replace(";", " ; "));
        c.good(2, P.replace(" ", "   "));
        c.good(2, P.replaceAll(" ([0-9])", "$1"));
        c.faulty(1, "^");
        c.faulty(1, "          ^");
    }

    static void promise04_lettersAndDigitsPartThemselves(Check c) {
        c.good(2, "towns vow1month0wide1turn0" + P.substring(T.length()));
        c.faulty(1, T + ";house h^1 left beds 1");
    }

    static void promise04_otherBytesBeginNoToken(Check c) {
        // those next to blanks, digits, semicolons and small letters, and the ends of all bytes
        int[] bad = {0, 9, 10, 13, 31, 33, 44, 46, 47, 58, 60, 64, 65, 84, 90, 95, 96, 123, 126, 127, 128, 160, 255};
        for (int b : bad) {
            c.faulty(1, P + "^" + (char) b);
            c.faulty(1, "^" + (char) b + P);
            c.faulty(1, P + ";house x^" + (char) b + " left beds 1");
        }
    }

    static void promise04_semicolonsStandAlone(Check c) {
        c.faulty(1, "^;" + P);
        c.faulty(1, P + ";^");
        c.faulty(1, P + ";   ^");
        c.faulty(1, P + ";^;ill 1");
        c.faulty(1, P + " ^house x left beds 1");
    }

    // ---- promise 4: FAULT 1, a TOKEN with which no TOWNS go on

    static void promise04_aTextCutOffIsAFaultAtItsEnd(Check c) {
        String all = P + ";foes p q;wants p k 1;keeps h 1 2 3 4;ill 5;shoe q h;cold k 1";
        for (int n = 0; n < all.length(); n++) {
            String cut = all.substring(0, n);
            OtherTown x = new OtherTown();
            int people = Check.tell(x, cut);
            String last = cut.isEmpty() ? "" : cut.substring(cut.lastIndexOf(';') + 1);
            boolean whole = last.matches("towns vow 1 month 0 wide 1 turn 0|house . left beds 1|house . right beds 2"
                    + "|person . plain of . walks 1 kin 0|person . light of . walks 1 kin 0|foes p q|wants p k 1"
                    + "|keeps h 1 2 3 4|ill 5|shoe q h|cold k 1");
            if (whole) {
                c.due("people of " + cut, people, cut.contains("person q") ? 2 : cut.contains("person p") ? 1 : -1);
                c.due("fault of " + cut, x.fault(), cut.contains("person") ? 0 : 6);
            } else {
                c.due("fault of " + cut, x.fault(), 1);
            }
            if (people < 0 && (whole || last.isEmpty() || last.endsWith(" "))) {
                c.due("where of " + cut, x.where(), n);
            }
        }
    }

    static void promise04_eachPlaceHasItsTokens(Check c) {
        String[] lines = {"foes p q", "wants p k 1", "keeps h 1 2 3 4", "ill 5", "shoe q h", "cold k 1",
            "house x left beds 1", "person x child of h walks 2 kin 3"};
        for (String line : lines) {
            String[] tokens = line.split(" ");
            for (int i = 0; i <= tokens.length; i++) {
                String before = P + ";" + String.join(" ", java.util.Arrays.copyOf(tokens, i)) + (i > 0 ? " " : "");
                boolean number = i < tokens.length && tokens[i].matches("[0-9]");
                c.faulty(1, before + "^" + (number ? "x" : "5"));
                if (i < tokens.length) {
                    c.faulty(1, before + "^;");
                }
            }
        }
    }

    static void promise04_noLineHasAnotherFirstWord(Check c) {
        for (String word : new String[] {"town", "townss", "houses", "persons", "foe", "want", "keep", "ills", "shoes",
            "colds", "left", "vow", "p", "beds", "gold", "mouse", "pill", "aill", "sheep", "coll", "t", "tow"}) {
            c.faulty(1, P + ";^" + word + " h 1");
            c.faulty(1, "^" + word);
        }
    }

    static void promise04_eachWordOfALineIsThatVeryWord(Check c) {
        c.faulty(1, "towns ^now 1");
        c.faulty(1, "towns ^vox 1");
        c.faulty(1, "towns vow 1 ^mouth 0");
        c.faulty(1, "towns vow 1 month 0 ^tide 1");
        c.faulty(1, "towns vow 1 month 0 ^wid 1");
        c.faulty(1, "towns vow 1 month 0 wide 1 ^burn 0");
        c.faulty(1, "towns vow 1 month 0 wide 1 ^turns 0");
        c.faulty(1, T + ";house h left ^bedss 1");
        c.faulty(1, T + ";house h left ^meds 1");
        c.faulty(1, H + ";person p plain ^if h walks 1 kin 0");
        c.faulty(1, H + ";person p plain ^o h walks 1 kin 0");
        c.faulty(1, H + ";person p plain of h ^talks 1 kin 0");
        c.faulty(1, H + ";person p plain of h walks 1 ^win 0");
        c.faulty(1, H + ";person p plain of h walks 1 ^king 0");
    }

    static void promise04_keptWordsAreNoNames(Check c) {
        for (String word : KEPT_WORDS) {
            c.faulty(1, T + ";house ^" + word + " left beds 1");
            c.faulty(1, H + ";person ^" + word + " plain of h walks 1 kin 0");
            c.faulty(1, H + ";person p plain of ^" + word + " walks 1 kin 0");
            c.faulty(1, P + ";foes ^" + word + " p");
            c.faulty(1, P + ";foes p ^" + word);
            c.faulty(1, P + ";wants ^" + word + " k 1");
            c.faulty(1, P + ";wants p ^" + word + " 1");
            c.faulty(1, P + ";keeps ^" + word + " 1 1 1 1");
            c.faulty(1, P + ";shoe ^" + word + " k");
            c.faulty(1, P + ";shoe p ^" + word);
            c.faulty(1, P + ";cold ^" + word + " 0");
        }
    }

    static void promise04_allOtherWordsAreNames(Check c) {
        for (String word : new String[] {"vow", "month", "wide", "turn", "left", "right", "beds", "plain", "snorer",
            "light", "child", "of", "walks", "kin", "town", "illl", "a", "z"}) {
            c.good(1, T + ";house " + word + " left beds 1;person x plain of " + word + " walks 1 kin 0");
            c.good(1, T + ";house x right beds 1;person " + word + " plain of x walks 1 kin 0");
        }
    }

    static void promise04_sidesAndKindsHaveTheirWords(Check c) {
        for (String word : new String[] {"lef", "leftt", "rights", "plain", "up", "deft", "might", "weft", "lefs"}) {
            c.faulty(1, T + ";house h ^" + word + " beds 1");
        }
        for (String word : new String[] {"plai", "plains", "snore", "lights", "children", "left", "of", "night", "chile",
            "slain", "child".repeat(2)}) {
            c.faulty(1, H + ";person p ^" + word + " of h walks 1 kin 0");
        }
    }

    // ---- promise 4: FAULT 2

    static void promise04_aNameMustBeToldAheadOfItsUse(Check c) {
        c.faulty(2, T + ";person p plain of ^h walks 1 kin 0;house h left beds 1");
        c.faulty(2, H + ";person p plain of ^p walks 1 kin 0");
        c.faulty(2, H + ";foes ^p q;person p plain of h walks 1 kin 0");
        c.faulty(2, H + ";person p plain of h walks 1 kin 0;foes p ^q");
        c.faulty(2, T + ";keeps ^h 1 1 1 1;house h left beds 1");
        c.faulty(2, T + ";cold ^h 0");
        c.faulty(2, P + ";wants ^r k 1");
        c.faulty(2, P + ";wants p ^l 1");
        c.faulty(2, P + ";shoe ^r k");
        c.faulty(2, P + ";shoe p ^l");
    }

    static void promise04_aNameOfTheFormerTownsIsNotTold(Check c) {
        OtherTown x = Check.town(P);
        c.due("a house of before", Check.tell(x, T + ";house a left beds 1;person p plain of h walks 1 kin 0"), -1);
        c.due("fault", x.fault(), 2);
        c.due("a person of before", Check.tell(x, H + ";person r plain of h walks 1 kin 0;foes r p"), -1);
        c.due("fault", x.fault(), 2);
        c.due("told as if new", Check.tell(x, P), 2);
    }

    static void promise04_aNameMustBeOfTheSortThatStandsThere(Check c) {
        c.faulty(2, P + ";person r plain of ^p walks 1 kin 0");
        c.faulty(2, P + ";foes ^h q");
        c.faulty(2, P + ";foes p ^h");
        c.faulty(2, P + ";wants ^h k 1");
        c.faulty(2, P + ";wants p ^q 1");
        c.faulty(2, P + ";keeps ^p 1 1 1 1");
        c.faulty(2, P + ";shoe ^k k");
        c.faulty(2, P + ";shoe p ^p");
        c.faulty(2, P + ";cold ^q 0");
    }

    // ---- promise 4: FAULT 3

    static void promise04_aNameIsToldOnce(Check c) {
        c.faulty(3, H + ";house ^h left beds 1");
        c.faulty(3, H + ";house ^k left beds 1");
        c.faulty(3, H + ";person ^h plain of h walks 1 kin 0");
        c.faulty(3, P + ";person ^p plain of h walks 1 kin 0");
        c.faulty(3, P + ";person ^q plain of h walks 1 kin 0");
        c.faulty(3, P + ";house ^p left beds 1");
    }

    static void promise04_foesAreUnlike(Check c) {
        c.faulty(3, P + ";foes p ^p");
        c.faulty(3, P + ";foes q ^q");
    }

    static void promise04_foesAreToldOnceInWhateverOrder(Check c) {
        c.good(2, P + ";foes p q");
        c.good(2, P + ";foes q p");
        c.faulty(3, P + ";foes p q;foes p ^q");
        c.faulty(3, P + ";foes p q;foes q ^p");
        c.faulty(3, P + ";foes q p;foes p ^q");
        c.faulty(3, P + ";foes q p;foes q ^p");
        c.good(3, P + ";person r plain of h walks 1 kin 0;foes p q;foes q r;foes r p");
    }

    static void promise04_wantsAreToldOnce(Check c) {
        c.faulty(3, P + ";wants p k 1;wants p ^k 1");
        c.faulty(3, P + ";wants p k 1;wants q h 2;wants q ^h 0");
        c.good(3, P + ";person r plain of h walks 1 kin 0;wants p k 1;wants r k 1");
        c.good(2, P + ";house l right beds 1;wants p k 1;wants p l 1");
    }

    static void promise04_keepsAreToldOnceForEach(Check c) {
        c.faulty(3, P + ";keeps h 0 0 0 0;keeps ^h 0 0 0 0");
        c.faulty(3, P + ";keeps h 0 0 0 0;keeps k 0 0 0 0;keeps ^k 0 0 0 0");
        c.good(2, P + ";keeps k 1 1 1 1;keeps h 1 1 1 1");
        // all HOUSES have theirs: there is no LINE too many, but a HOUSE told again
        c.faulty(3, Edges.FULL + Edges.FULL_KEEPS + ";keeps ^f 1 1 1 1");
    }

    static void promise04_townsAndIllAreToldOnce(Check c) {
        c.faulty(3, T + ";^" + T);
        c.faulty(3, P + ";^towns");
        c.faulty(3, P + ";^towns 7");
        c.faulty(3, P + ";ill 0;^ill 0");
        c.faulty(3, P + ";ill 5;foes p q;^ill");
    }

    static void promise04_cluesMayBeToldAgain(Check c) {
        OtherTown x = Check.town(P + ";shoe p k;shoe p k;cold k 1;cold k 1");
        c.due("clues", x.size(8), 4);
        c.due("fits", x.fits(0), 1);
    }

    // ---- promise 4: FAULT 4 has its tests by EdgesTapeTest; its place

    static void promise04_outOfBoundsIsAtTheWhole(Check c) {
        c.faulty(4, "towns vow ^0 x");
        c.faulty(4, P + ";keeps h 0 99 ^100 x");
        c.faulty(4, P + ";cold  h  ^001");
        c.faulty(4, P + ";ill^101");
    }

    // ---- promise 4: FAULT 5

    static void promise04_upTo6Houses(Check c) {
        String six = T + ";house a left beds 1;house b left beds 1;house c left beds 1;house d left beds 1"
                + ";house e left beds 1;house f left beds 1";
        c.good(1, six + ";person p plain of f walks 1 kin 0");
        c.faulty(5, six + ";^house g right beds 1");
        c.faulty(5, six + ";^house a");
        c.faulty(5, six + ";^house");
    }

    static void promise04_upTo6BedsOnEachSide(Check c) {
        String six = T + ";house a left beds 3;house b left beds 3";
        c.faulty(5, six + ";house c left beds ^1");
        c.faulty(5, T + ";house a right beds 3;house b right beds 2;house c right beds ^2");
        c.faulty(5, T + ";house a right beds 1;house b right beds 3;house c right beds ^3");
        c.good(1, six + ";house c right beds 3;house d right beds 3;person p plain of d walks 1 kin 0");
        c.faulty(5, six + ";house c right beds 3;house d right beds 3;house e right beds ^1");
        c.faulty(1, six + ";house c left ^1");
    }

    static void promise04_upTo5PeopleOfEachSide(Check c) {
        String five = H;
        for (char name = 'a'; name <= 'e'; name++) {
            five += ";person " + name + " plain of k walks 1 kin 0";
        }
        c.good(5, five);
        c.faulty(5, five + ";person f plain of ^k walks 1 kin 0");
        c.faulty(5, five + ";person f plain of ^k");
        c.good(6, five + ";person f plain of h walks 1 kin 0");
        c.faulty(5, five + ";house l right beds 1;person f plain of ^l walks 1 kin 0");
        c.faulty(3, five + ";person ^e plain of k");
    }

    static void promise04_upTo10People(Check c) {
        c.good(10, Edges.FULL);
        c.faulty(5, Edges.FULL + ";^person u plain of a walks 1 kin 0");
        c.faulty(5, Edges.FULL + ";^person k");
        c.faulty(5, Edges.FULL + ";^person");
    }

    static void promise04_upTo6Foes(Check c) {
        c.good(10, Edges.FULL + Edges.FULL_FOES);
        c.faulty(5, Edges.FULL + Edges.FULL_FOES + ";^foes m n");
        c.faulty(5, Edges.FULL + Edges.FULL_FOES + ";^foes k p");
        c.faulty(5, Edges.FULL + Edges.FULL_FOES + ";^foes");
    }

    static void promise04_upTo12Wants(Check c) {
        c.good(10, Edges.FULL + Edges.FULL_WANTS);
        c.faulty(5, Edges.FULL + Edges.FULL_WANTS + ";^wants l d 1");
        c.faulty(5, Edges.FULL + Edges.FULL_WANTS + ";^wants k d 9");
        c.faulty(5, Edges.FULL + Edges.FULL_WANTS + ";^wants");
    }

    static void promise04_upTo6CluesOfBothTogether(Check c) {
        String shoes = P + ";shoe p k".repeat(6);
        String cold = P + ";cold k 0".repeat(6);
        String both = P + ";shoe p k;cold k 0".repeat(3);
        for (String full : new String[] {shoes, cold, both}) {
            c.good(2, full);
            c.faulty(5, full + ";^shoe p k");
            c.faulty(5, full + ";^cold k 0");
            c.faulty(5, full + ";^cold");
        }
    }

    static void promise04_oneRoomIsNoOthers(Check c) {
        c.good(10, Edges.FULL + Edges.FULL_FOES + Edges.FULL_WANTS + Edges.FULL_KEEPS + Edges.FULL_CLUES + ";ill 1");
    }

    static void promise04_roomsAreEmptyAgainForOtherTowns(Check c) {
        OtherTown x = Check.town(Edges.FULL + Edges.FULL_FOES + Edges.FULL_WANTS + Edges.FULL_KEEPS + ";ill 1"
                + Edges.FULL_CLUES);
        c.due("the same again", Check.tell(x, Edges.FULL + Edges.FULL_FOES + Edges.FULL_WANTS + Edges.FULL_KEEPS
                + ";ill 1" + Edges.FULL_CLUES), 10);
        c.due("behind a fault too", Check.tell(x, Edges.FULL + Edges.FULL_FOES + Edges.FULL_CLUES + ";."), -1);
        c.due("again", Check.tell(x, Edges.FULL + Edges.FULL_FOES + Edges.FULL_CLUES), 10);
    }

    // ---- promise 4: FAULT 6

    static void promise04_noLineIsAheadOfTheTowns(Check c) {
        for (String word : KEPT_WORDS) {
            if (!word.equals("towns")) {
                c.faulty(6, "^" + word);
                c.faulty(6, "   ^" + word + " .");
            }
        }
        c.faulty(6, "^house h left beds 1;" + T);
        c.faulty(6, "^ill 5;" + P);
    }

    static void promise04_townsWithoutHouseOrPersonLackThem(Check c) {
        c.faulty(6, T + "^");
        c.faulty(6, T + "     ^");
        c.faulty(6, H + "^");
        c.faulty(6, H + ";keeps h 1 1 1 1;ill 0;cold k 0^");
    }

    // ---- promise 4: FAULT 7

    static void promise04_onesOwnSideIsNotWanted(Check c) {
        c.faulty(7, P + ";wants p ^h 1");
        c.faulty(7, P + ";wants q ^k 1");
        c.faulty(7, P + ";house l left beds 1;wants p ^l 1");
        c.faulty(7, P + ";house l left beds 1;wants p ^l");
        c.good(2, P + ";wants p k 1;wants q h 1");
    }

    static void promise04_noShoeLiesOnOnesOwnSide(Check c) {
        c.faulty(7, P + ";shoe p ^h");
        c.faulty(7, P + ";shoe q ^k");
        c.faulty(7, P + ";house l right beds 1;shoe q ^l");
        c.good(2, P + ";shoe p k;shoe q h");
    }

    // ---- promise 5: where

    static void promise05_isNoneWithoutAFault(Check c) {
        OtherTown x = new OtherTown();
        c.due("at first", x.where(), -1);
        Check.tell(x, P);
        c.due("behind a good one", x.where(), -1);
        x.towns(-1);
        c.due("refused by 2", x.where(), -1);
        x.bed(9);
        c.due("refused by 1", x.where(), -1);
    }

    static void promise05_isThePlaceFrom0ToTheEnd(Check c) {
        c.faulty(1, "^.");
        c.faulty(1, P + ";^");
        c.faulty(1, "^");
        OtherTown x = new OtherTown();
        Check.feed(x, P + ";ill 5");
        x.towns(P.length() + 1);
        c.due("the end is behind the n bytes", x.where(), P.length() + 1);
    }

    static void promise05_isNoneBehindAnyCallThatMayBeRefused(Check c) {
        OtherTown x = Check.town(P);
        Check.tell(x, P + ".");
        c.due("its place", x.where(), P.length());
        x.bed(0);
        c.due("behind one that wasn't", x.where(), -1);
        Check.tell(x, P + ".");
        x.bed(2);
        c.due("behind one that was", x.where(), -1);
        Check.tell(x, P + ".");
        x.towns(-1);
        c.due("behind towns by 2", x.where(), -1);
        Check.tell(x, P + ".");
        x.undo();
        c.due("behind undo", x.where(), -1);
        c.due("the FAULT is told still", x.fault(), 1);
    }

    static void promise05_staysBehindCallsThatTellNoNumber(Check c) {
        OtherTown x = Check.town(P);
        Check.tell(x, P + "  .");
        int place = P.length() + 2;
        x.feed(0, 0, 0, 0, 0);
        c.due("behind feed", x.where(), place);
        x.fault();
        c.due("behind fault", x.where(), place);
        x.size(6);
        x.size(77);
        c.due("behind size", x.where(), place);
        x.trouble();
        c.due("behind trouble", x.where(), place);
        Check.led(x, 0);
        Check.led(x, 9);
        c.due("behind led", x.where(), place);
    }

    static void promise05_isOfTheLatestFault(Check c) {
        OtherTown x = new OtherTown();
        Check.tell(x, P + ".");
        Check.tell(x, ".");
        c.due("the latest", x.where(), 0);
        x.towns(0);
        c.due("the end of none", x.where(), 0);
        Check.tell(x, "towns vow 9");
        c.due("the latest", x.where(), 10);
    }

    public static void main(String[] args) {
        Edges.run(EdgesFaultTest.class);
    }
}
