/** Promises 2 to 9: THE TAPE, the text and its faults, what is as told. */
public final class TownsTest {
    private static final Check CHECK = new Check();
    private static final String T = "towns vow 1 month 0 wide 1 turn 0";
    private static final String H = T + ";house h left beds 1;house k right beds 2";
    private static final String P = H + ";person p plain of h walks 1 kin 0;person q light of k walks 1 kin 0";

    private static void tape() {
        OtherTown x = new OtherTown();
        for (int i = 1; i <= 45; i++) {
            CHECK.due("feed " + i, x.feed(0, 0, 0, 0, 0), 20 * i);
        }
        x.bed(0);
        CHECK.due("feed 46", x.feed(0, 0, 0, 0, 0), -1);
        CHECK.due("tape", x.size(13), 900);
        CHECK.due("feed is none of the calls that have a trouble", x.trouble(), 1);
        CHECK.due("towns beyond the tape", x.towns(901), -1);
        CHECK.due("trouble", x.trouble(), 2);
        CHECK.due("tape stays", x.size(13), 900);
        CHECK.due("towns below 0", x.towns(-1), -1);
        CHECK.due("trouble", x.trouble(), 2);
        CHECK.due("fault of none yet", x.fault(), 0);
        CHECK.due("towns of no byte", x.towns(0), -1);
        CHECK.due("trouble", x.trouble(), 4);
        CHECK.due("fault", x.fault(), 1);
        CHECK.due("where", x.where(), 0);
        CHECK.due("feed leaves where", x.feed(0, 0, 0, 0, 0), 20);
        CHECK.due("where behind a feed", x.where(), 0);
        CHECK.due("led leaves where", Check.led(x, 0), -3);
        CHECK.due("where behind led", x.where(), 0);
        CHECK.due("towns by 2", x.towns(21), -1);
        CHECK.due("where by 2", x.where(), -1);
        CHECK.due("fault stays by 2", x.fault(), 1);
    }

    private static void form() {
        CHECK.faulty(1, "^");
        CHECK.faulty(1, "   ^");
        CHECK.faulty(1, "^;" + P);
        CHECK.faulty(1, "^7");
        CHECK.faulty(1, "^tows vow 1");
        CHECK.faulty(1, "^Towns");
        CHECK.faulty(1, "^townss vow 1");
        CHECK.faulty(1, "towns ^");
        CHECK.faulty(1, "towns  ^1");
        CHECK.faulty(1, "towns ^month 1");
        CHECK.faulty(1, "towns vow ^month");
        CHECK.faulty(1, "towns vow ^1000 month");
        CHECK.faulty(1, "towns vow 1 month 0 wide 1 turn ^;");
        CHECK.faulty(1, T + ";^");
        CHECK.faulty(1, T + "; ^;");
        CHECK.faulty(1, T + " ^house h left beds 1");
        CHECK.faulty(1, T + ";^x");
        CHECK.faulty(1, T + ";house ^");
        CHECK.faulty(1, T + ";house ^1");
        CHECK.faulty(1, T + ";house ^towns");
        CHECK.faulty(1, T + ";house ^cold left beds 1");
        CHECK.faulty(1, T + ";house ^abcdefghi left beds 1");
        CHECK.faulty(1, T + ";house h ^middle");
        CHECK.faulty(1, T + ";house h left ^bed 1");
        CHECK.faulty(1, T + ";house h left beds ^x");
        CHECK.faulty(1, T + ";house h left beds 1^.");
        CHECK.faulty(1, T + ";house h left beds 1^\t");
        CHECK.faulty(1, T + ";house h left beds 1^\u00e9");
        CHECK.faulty(1, T + ";house h left beds 1 ^2");
        CHECK.faulty(1, H + ";person ^foes plain");
        CHECK.faulty(1, H + ";person p ^of");
        CHECK.faulty(1, H + ";person p plain ^in h");
        CHECK.faulty(1, H + ";person p plain of ^house");
        CHECK.faulty(1, H + ";person p plain of ^3");
        CHECK.faulty(1, H + ";person p plain of h ^kin 1");
        CHECK.faulty(1, H + ";person p plain of h walks 1^");
        CHECK.faulty(1, H + ";person p plain of h walks 1 kin 0 ^0");
        CHECK.faulty(1, P + ";foes ^ill p");
        CHECK.faulty(1, P + ";foes p ^;");
        CHECK.faulty(1, P + ";foes p q ^p");
        CHECK.faulty(1, P + ";wants p k ^");
        CHECK.faulty(1, P + ";wants p k ^x");
        CHECK.faulty(1, P + ";keeps h 1 2 3 ^;");
        CHECK.faulty(1, P + ";keeps h 1 2 3 4 ^5");
        CHECK.faulty(1, P + ";ill ^x");
        CHECK.faulty(1, P + ";shoe p ^towns");
        CHECK.faulty(1, P + ";cold k ^");
        CHECK.faulty(1, P + ";^");
        CHECK.faulty(1, P + "   ^,  ");
        // a second text may stand behind the n bytes: it is not read
        OtherTown x = new OtherTown();
        for (int[] f : Check.feeds(P + ".....")) {
            x.feed(f[0], f[1], f[2], f[3], f[4]);
        }
        CHECK.due("the first bytes alone", x.towns(P.length()), 2);
        CHECK.good(2, P);
        CHECK.good(2, "  " + P.replace(";", "  ;  ").replace(" ", "  ") + "  ");
        CHECK.good(2, P.replace("vow 1", "vow001").replace("beds 1", "beds1"));
        CHECK.good(1, T + ";house left left beds 1;person beds child of left walks 9 kin 9");
        CHECK.good(1, T + ";house abcdefgh left beds 1;person of plain of abcdefgh walks 1 kin 0");
    }

    private static void names() {
        CHECK.faulty(2, H + ";person p plain of ^z walks");
        CHECK.faulty(2, H + ";person p plain of ^p walks");
        CHECK.faulty(2, P + ";person r plain of ^q");
        CHECK.faulty(2, P + ";foes ^h p");
        CHECK.faulty(2, P + ";foes p ^k");
        CHECK.faulty(2, P + ";foes p ^left");
        CHECK.faulty(2, P + ";wants ^k k 1");
        CHECK.faulty(2, P + ";wants p ^q 1");
        CHECK.faulty(2, P + ";keeps ^p 1 1 1 1");
        CHECK.faulty(2, P + ";shoe ^h h");
        CHECK.faulty(2, P + ";shoe p ^p");
        CHECK.faulty(2, P + ";cold ^p 0");
        CHECK.faulty(3, T + ";house h left beds 1;house ^h");
        CHECK.faulty(3, H + ";person ^h plain");
        CHECK.faulty(3, P + ";person ^p plain of z");
        CHECK.faulty(3, P + ";house ^q left beds 1");
        CHECK.faulty(3, P + ";foes p ^p");
        CHECK.faulty(3, P + ";foes p q;foes p ^q");
        CHECK.faulty(3, P + ";foes p q;foes q ^p");
        CHECK.faulty(3, P + ";wants p k 1;wants p ^k 2");
        CHECK.faulty(3, P + ";keeps h 0 0 0 0;keeps ^h 1 1 1 1");
        CHECK.faulty(3, T + ";^towns vow 1");
        CHECK.faulty(3, P + ";^towns");
        CHECK.faulty(3, P + ";ill 0;^ill 0");
        CHECK.faulty(7, P + ";wants p ^h 3");
        CHECK.faulty(7, P + ";wants q ^k 3");
        CHECK.faulty(7, P + ";shoe p ^h");
        CHECK.good(2, P + ";shoe p k;shoe p k;cold k 1;cold k 1;keeps k 0 0 0 0;keeps h 99 99 99 99");
    }

    private static void bounds() {
        CHECK.faulty(4, "towns vow ^0");
        CHECK.faulty(4, "towns vow ^7");
        CHECK.faulty(4, "towns vow 6 month ^31");
        CHECK.faulty(4, "towns vow 6 month 30 wide ^0");
        CHECK.faulty(4, "towns vow 6 month 30 wide ^4");
        CHECK.faulty(4, "towns vow 6 month 30 wide 3 turn ^10");
        CHECK.faulty(4, T + ";house h left beds ^0");
        CHECK.faulty(4, T + ";house h left beds ^4");
        CHECK.faulty(4, T + ";house a left beds 3;house b left beds 3;house c left beds ^4");
        CHECK.faulty(4, H + ";person p plain of h walks ^0");
        CHECK.faulty(4, H + ";person p plain of h walks ^10");
        CHECK.faulty(4, H + ";person p plain of h walks 9 kin ^10");
        CHECK.faulty(4, P + ";wants p k ^0");
        CHECK.faulty(4, P + ";wants p k ^10");
        CHECK.faulty(4, P + ";keeps h ^100 1 1 1");
        CHECK.faulty(4, P + ";keeps h 1 1 1 ^100");
        CHECK.faulty(4, P + ";ill ^101");
        CHECK.faulty(4, P + ";cold h ^1");
        CHECK.faulty(4, P + ";cold k ^2");
        CHECK.good(2, P + ";wants p k 9;wants q h 1;keeps h 99 0 99 0;ill 100;cold k 1");
        CHECK.good(1, "towns vow 6 month 30 wide 3 turn 9;house h left beds 3;person p plain of h walks 9 kin 9");
    }

    private static void rooms() {
        CHECK.faulty(5, T + ";house a left beds 3;house b left beds 3;house c left beds ^1");
        CHECK.faulty(5, T + ";house a right beds 3;house b right beds 2;house c right beds ^2");
        String six = T + ";house a left beds 1;house b left beds 1;house c left beds 1;house d right beds 1"
                + ";house e right beds 1;house f right beds 1";
        CHECK.faulty(5, six + ";^house g left beds 1");
        CHECK.faulty(5, six + ";^house");
        StringBuilder five = new StringBuilder(H);
        for (int i = 0; i < 5; i++) {
            five.append(";person a").append("bcdef".charAt(i)).append(" plain of h walks 1 kin 0");
        }
        CHECK.good(5, five.toString());
        CHECK.faulty(5, five + ";person z plain of ^h walks 1 kin 0");
        for (int i = 0; i < 5; i++) {
            five.append(";person b").append("bcdef".charAt(i)).append(" plain of k walks 1 kin 0");
        }
        CHECK.good(10, five.toString());
        CHECK.faulty(5, five + ";^person");
        String foes = five + ";foes ab ac;foes ab ad;foes ab ae;foes ab af;foes bb bc;foes bb ab";
        CHECK.good(10, foes);
        CHECK.faulty(5, foes + ";^foes bb bd");
        StringBuilder wants = new StringBuilder(six + ";person p plain of a walks 1 kin 0;person q plain of b walks 1 kin 0"
                + ";person r plain of b walks 1 kin 0;person s plain of b walks 1 kin 0;person t plain of d walks 1 kin 0");
        for (int i = 0; i < 12; i++) {
            wants.append(";wants ").append("pqrs".charAt(i / 3)).append(' ').append("def".charAt(i % 3)).append(" 1");
        }
        CHECK.good(5, wants.toString());
        CHECK.faulty(5, wants + ";^wants t a 1");
        String clues = P + ";cold k 0;cold k 1;cold h 0;shoe p k;shoe q h;shoe q h";
        CHECK.good(2, clues);
        CHECK.faulty(5, clues + ";^shoe p k");
        CHECK.faulty(5, clues + ";^cold k 0");
        CHECK.faulty(6, "^house h left beds 1");
        CHECK.faulty(6, "^person");
        CHECK.faulty(6, "^ill 0;" + T);
        CHECK.faulty(6, T + "^");
        CHECK.faulty(6, T + ";house h left beds 1 ^".replace(" ^", "^"));
        CHECK.faulty(6, T + ";ill 3   ^");
    }

    private static void asTold() {
        OtherTown x = Check.town("towns vow 3 month 4 wide 2 turn 9;house a right beds 2;house b left beds 3"
                + ";house c right beds 1;person k light of b walks 7 kin 5;person l snorer of a walks 2 kin 0"
                + ";person m child of c walks 9 kin 9;person n plain of b walks 1 kin 1;foes k l;foes n k;wants l b 4"
                + ";wants k c 9;keeps c 1 2 3 4;ill 17;shoe k a;cold b 2");
        int[] sizes = {3, 4, 2, 9, 3, 6, 4, 17, 2, 0, 0, 0, 0, 0};
        for (int i = 0; i < sizes.length; i++) {
            CHECK.due("size " + i, x.size(i), sizes[i]);
        }
        int[][] houses = {{1, 2, 0, 0}, {0, 3, 2, 0}, {1, 1, 5, 1}};
        for (int h = 0; h < 3; h++) {
            for (int what = 0; what < 4; what++) {
                CHECK.due("house " + h + " " + what, x.house(h, what), houses[h][what]);
            }
        }
        int[][] people = {{2, 1, 0, 7, 5, 10, 0}, {1, 0, 1, 2, 0, 1, 0}, {3, 2, 1, 9, 9, 0, 0}, {0, 1, 0, 1, 1, 1, 0}};
        for (int p = 0; p < 4; p++) {
            for (int what = 0; what < 7; what++) {
                CHECK.due("person " + p + " " + what, x.person(p, what), people[p][what]);
            }
        }
        int[] bedHouses = {0, 0, 1, 1, 1, 2};
        for (int b = 0; b < 6; b++) {
            CHECK.due("houseOf " + b, x.houseOf(b), bedHouses[b]);
        }
        int[][] wants = {{0, 0, 9}, {0, 4, 0}, {0, 0, 0}, {0, 0, 0}};
        for (int p = 0; p < 4; p++) {
            for (int h = 0; h < 3; h++) {
                CHECK.due("wants " + p + " " + h, x.wants(p, h), wants[p][h]);
            }
        }
        CHECK.due("trouble", x.trouble(), 0);
        CHECK.no(x, "house 3", x.house(3, 0), 1);
        CHECK.no(x, "house -1", x.house(-1, 0), 1);
        CHECK.no(x, "house what 4", x.house(0, 4), 1);
        CHECK.no(x, "house what -1", x.house(0, -1), 1);
        CHECK.no(x, "person 4", x.person(4, 0), 1);
        CHECK.no(x, "person what 7", x.person(0, 7), 1);
        CHECK.no(x, "person what -1", x.person(0, -1), 1);
        CHECK.no(x, "houseOf 6", x.houseOf(6), 1);
        CHECK.no(x, "houseOf -2", x.houseOf(-2), 1);
        CHECK.no(x, "wants 4", x.wants(4, 0), 1);
        CHECK.no(x, "wants of house 3", x.wants(0, 3), 1);
        CHECK.no(x, "wants most", x.wants(Integer.MAX_VALUE, Integer.MIN_VALUE), 1);
    }

    /** A fault leaves the towns, their acts and images; new towns bring all back to the start. */
    private static void newTowns() {
        OtherTown x = Check.town(P + ";ill 100");
        x.seed(5);
        x.lays(0, 1);
        x.night();
        x.image();
        CHECK.due("a fault", Check.tell(x, P + ";ill 101"), -1);
        CHECK.due("the towns stay", x.size(6), 2);
        CHECK.due("ill stays", x.size(7), 100);
        CHECK.due("nights stay", x.size(9), 1);
        CHECK.due("acts stay", x.size(11), 2);
        CHECK.due("images stay", x.size(12), 1);
        CHECK.due("his bed stays", x.bed(0), 1);
        CHECK.due("where behind another call", x.where(), -1);
        CHECK.due("the fault is still told", x.fault(), 4);
        CHECK.due("new towns", Check.tell(x, H + ";person p plain of k walks 1 kin 0"), 1);
        CHECK.due("no fault", x.fault(), 0);
        int[] sizes = {1, 0, 1, 0, 2, 3, 1, 0, 0, 0, 0, 0, 0, 0};
        for (int i = 0; i < sizes.length; i++) {
            CHECK.due("new size " + i, x.size(i), sizes[i]);
        }
        CHECK.due("nobody ill", x.person(0, 6), 0);
        CHECK.due("in the church", x.bed(0), -2);
        CHECK.due("no turns", x.turnsOf(0), 0);
        CHECK.due("slept nowhere", x.slept(0), 0);
        CHECK.due("knows his home", x.knows(0), 2);
        CHECK.due("nothing to undo", x.undo(), false);
        CHECK.due("no image", x.back(0), false);
    }

    public static void main(String[] args) {
        tape();
        form();
        names();
        bounds();
        rooms();
        asTold();
        newTowns();
        CHECK.end();
    }
}
