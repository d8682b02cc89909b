import java.util.NoSuchElementException;

/** Boundary cases of promises 54 to 56: who is in the church, sizes, TROUBLE. */
public final class EdgesWhatIsToldTest {
    private static final String S = Edges.SMALL + ";keeps a 5 0 6 4;ill 40";

    // ---- promise 54: led

    static void promise54_countsFrom0ByNumbers(Check c) {
        OtherTown x = Check.lie(Edges.FULL, 0, 6, 4, 7, 9, 0);
        int[] due = {1, 2, 3, 5, 6, 7, 8};
        for (int i = 0; i < due.length; i++) {
            c.due("led " + i, Check.led(x, i), due[i]);
        }
        c.due("led 7", Check.led(x, 7), -3);
    }

    static void promise54_throwsBeyondThem(Check c) {
        OtherTown x = Check.town(S);
        c.due("the last", Check.led(x, 2), 2);
        for (int i : new int[] {3, -1, -2, Edges.MOST, Edges.LEAST}) {
            c.due("led " + i, Check.led(x, i), -3);
        }
    }

    static void promise54_throwsIfNobodyIsThere(Check c) {
        OtherTown x = Check.lie(S, 0, 1, 1, 2, 2, 0);
        c.due("all in beds", Check.led(x, 0), -3);
        x.lays(2, -2);
        c.due("the last one alone", Check.led(x, 0), 2);
        c.due("without TOWNS", Check.led(new OtherTown(), 0), -3);
    }

    static void promise54_throwsThatVeryException(Check c) {
        String thrown = "nothing";
        try {
            new OtherTown().led(0);
        } catch (NoSuchElementException e) {
            thrown = e.getClass().getName();
        }
        c.due("what", thrown, "java.util.NoSuchElementException");
    }

    static void promise54_leavesTroubleAndAll(Check c) {
        OtherTown x = Check.lie(S, 0, 1);
        String before = Check.all(x);
        x.bed(9);
        Check.led(x, 0);
        c.due("answered", x.trouble(), 1);
        Check.led(x, 7);
        c.due("thrown", x.trouble(), 1);
        c.due("all", Check.all(x), before);
    }

    static void promise54_isOfTonight(Check c) {
        OtherTown x = Check.lie(S, 0, 1);
        c.due("led 0", Check.led(x, 0), 1);
        x.night();
        c.due("behind a night", Check.led(x, 0), 1);
        x.undo();
        x.undo();
        c.due("undone", Check.led(x, 0), 0);
    }

    // ---- promise 55: size

    static void promise55_isNoneForOthers(Check c) {
        OtherTown none = new OtherTown();
        OtherTown x = Check.town(S);
        for (int what : new int[] {-1, -2, 14, 15, Edges.MOST, Edges.LEAST}) {
            c.due("without TOWNS " + what, none.size(what), -1);
            c.due("with " + what, x.size(what), -1);
        }
    }

    static void promise55_is0ForWhatThereIsnt(Check c) {
        OtherTown none = new OtherTown();
        for (int what = 0; what <= 13; what++) {
            c.due("without TOWNS " + what, none.size(what), 0);
        }
        OtherTown x = Check.town(Edges.SMALL);
        for (int what = 7; what <= 13; what++) {
            c.due("no ill, no CLUES, no NIGHTS .. " + what, x.size(what), 0);
        }
    }

    static void promise55_theLeastOfAll(Check c) {
        OtherTown x = Check.town("towns vow 1 month 0 wide 1 turn 0;house a right beds 1"
                + ";person k plain of a walks 1 kin 0");
        int[] due = {1, 0, 1, 0, 1, 1, 1, 0, 0, 0, 0, 0, 0, 0};
        for (int what = 0; what < due.length; what++) {
            c.due("size " + what, x.size(what), due[what]);
        }
    }

    static void promise55_theMostOfAll(Check c) {
        OtherTown x = Check.town(Edges.FULL + Edges.FULL_CLUES + ";ill 100");
        for (int i = 0; i < 13; i++) {
            x.nights(40);
        }
        for (int i = 0; i < 4; i++) {
            x.image();
        }
        x.seed(65536);
        for (int i = 0; i < 46; i++) {
            x.feed(0, 0, 0, 0, 0);
        }
        int[] due = {6, 30, 3, 9, 6, 12, 10, 100, 6, 520, 65536, 12, 3, 900};
        for (int what = 0; what < due.length; what++) {
            c.due("size " + what, x.size(what), due[what]);
        }
    }

    static void promise55_7IsWhatIsToldNotHowManyAreIll(Check c) {
        OtherTown x = Check.town(S);
        c.due("at first", x.size(7), 40);
        x.night();
        c.due("behind a night", x.size(7), 40);
    }

    static void promise55_8CountsLikeCluesEach(Check c) {
        c.due("clues", Check.town(S + ";shoe k c;shoe k c;cold c 0;cold c 0;cold c 0").size(8), 5);
    }

    static void promise55_leavesTrouble(Check c) {
        OtherTown x = Check.town(S);
        x.bed(9);
        for (int what = -1; what <= 14; what++) {
            x.size(what);
            c.due("trouble", x.trouble(), 1);
        }
        x.bed(0);
        x.size(99);
        c.due("trouble", x.trouble(), 0);
    }

    // ---- promise 56: trouble

    static void promise56_is0AtFirst(Check c) {
        OtherTown x = new OtherTown();
        c.due("no call yet", x.trouble(), 0);
        x.feed(0, 0, 0, 0, 0);
        x.size(99);
        Check.led(x, 0);
        c.due("none that may be refused yet", x.trouble(), 0);
    }

    static void promise56_eachNumber(Check c) {
        OtherTown x = Check.town(S);
        c.due("0", x.trouble(), 0);
        x.bed(-1);
        c.due("1: there is none such", x.trouble(), 1);
        x.nights(0);
        c.due("2: a number", x.trouble(), 2);
        for (int i = 0; i < 4; i++) {
            x.image();
        }
        c.due("3: no room", x.trouble(), 3);
        x.towns(0);
        c.due("4: a FAULT", x.trouble(), 4);
        x.lays(0, -2);
        c.due("5: not so", x.trouble(), 5);
        x.undo();
        c.due("6: there is none", x.trouble(), 6);
        x.bed(0);
        c.due("0 again", x.trouble(), 0);
    }

    static void promise56_isOfTheLatestAlone(Check c) {
        OtherTown x = Check.town(S);
        x.bed(-1);
        x.nights(0);
        x.lays(0, -2);
        c.due("the latest of three", x.trouble(), 5);
        c.due("asked again", x.trouble(), 5);
        x.fault();
        x.where();
        x.trouble();
        c.due("these leave it", x.trouble(), 5);
    }

    static void promise56_eachCallThatIsNotRefusedMakesIt0(Check c) {
        OtherTown x = Check.town(S);
        c.granted(x, 0, "house", () -> x.house(0, 0));
        c.granted(x, 0, "person", () -> x.person(0, 0));
        c.granted(x, 0, "houseOf", () -> x.houseOf(0));
        c.granted(x, 0, "wants", () -> x.wants(0, 0));
        c.granted(x, -2, "bed", () -> x.bed(0));
        c.granted(x, -2, "who", () -> x.who(0));
        c.granted(x, 0, "wrong", () -> x.wrong(0));
        c.granted(x, -2, "firstWrong", x::firstWrong);
        c.granted(x, 1, "wrongIn", () -> x.wrongIn(0, 0));
        c.granted(x, 0, "worth", () -> x.worth(0));
        c.granted(x, 13, "rows", () -> x.rows(0));
        c.granted(x, 1, "best", () -> x.best(0));
        c.granted(x, 0, "bestChurch", () -> x.bestChurch(0));
        c.granted(x, 0, "bestWorth", () -> x.bestWorth(0));
        c.granted(x, 0, "turnsOf", () -> x.turnsOf(0));
        c.granted(x, -2, "ago", () -> x.ago(0, 1));
        c.granted(x, 0, "slept", () -> x.slept(0));
        c.granted(x, 1, "knows", () -> x.knows(0));
        c.granted(x, 0, "leaked", () -> x.leaked(0));
        c.granted(x, 0, "peace", x::peace);
        c.granted(x, 0, "guests", () -> x.guests(0));
        c.granted(x, 0, "together", () -> x.together(0, 1));
        c.granted(x, 0, "fair", () -> x.fair(0));
        c.granted(x, -2, "swap", () -> x.swap(0));
        c.granted(x, 1, "peaceIn", x::peaceIn);
        c.granted(x, 0, "churchIn", () -> x.churchIn(0));
        c.granted(x, 1, "knowsIn", () -> x.knowsIn(0, 0));
        c.granted(x, 1, "leaksIn", () -> x.leaksIn(0));
        c.granted(x, 0, "crossed", x::crossed);
        c.granted(x, 0, "bridge", () -> x.bridge(0, true));
        c.granted(x, -2, "lastOver", () -> x.lastOver(0));
        c.granted(x, 4, "rests", () -> x.rests(0));
        c.granted(x, 1, "holds", () -> x.holds(0, false));
        c.granted(x, 5, "plays", () -> x.plays(0, 0, 0, 1));
        c.granted(x, 1, "bestRule", () -> x.bestRule(0, 1));
        c.granted(x, 13, "fits", () -> x.fits(0));
        c.granted(x, 6, "could", () -> x.could(0));
        c.granted(x, -2, "surely", () -> x.surely(0));
        c.granted(x, 3, "fitsWith", () -> x.fitsWith(0, 1));
        c.granted(x, 1, "ask", () -> x.ask(0));
        c.grants(x, "lays", () -> x.lays(0, 1));
        c.granted(x, 0, "laysBest", () -> x.laysBest(0));
        c.granted(x, 1, "night", x::night);
        c.granted(x, 2, "nights", () -> x.nights(1));
        c.grants(x, "seed", () -> x.seed(0));
        c.grants(x, "undo", x::undo);
        c.granted(x, 0, "image", x::image);
        c.grants(x, "back", () -> x.back(0));
        Check.feed(x, S);
        c.granted(x, 3, "towns", () -> x.towns(S.length()));
    }

    static void promise56_isAsDueInThe512thCall(Check c) {
        OtherTown x = new OtherTown();
        int calls = Check.feeds(S).length + 1;
        Check.tell(x, S);
        for (; calls < 508; calls++) {
            x.night();
        }
        x.lays(0, 1);
        x.lays(0, 1);
        c.due("the 511th", x.trouble(), 5);
        c.due("the 512th", x.bed(0), 1);
    }

    public static void main(String[] args) {
        Edges.run(EdgesWhatIsToldTest.class);
    }
}
