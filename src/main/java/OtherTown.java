import java.util.Arrays;
import java.util.NoSuchElementException;

/**
 * They sleep in the other: two towns, who sleeps in which bed of the other one,
 * and what comes of it. The document ../shared/DOC.md says what each call answers.
 */
public final class OtherTown {
    /** There is none; refused. */
    public static final int NONE = -1;

    /** The church, nobody, never, none: what the document writes as -2. */
    private static final int CHURCH = -2;

    private static final int LEFT = 0;
    private static final int RIGHT = 1;

    private static final int TAPE = 900;
    private static final int HOUSES = 6;
    private static final int BEDS = 12;
    private static final int SIDE_BEDS = 6;
    private static final int PEOPLE = 10;
    private static final int SIDE_PEOPLE = 5;
    private static final int LANES = 3;
    private static final int KEPT = 12;
    private static final int IMAGES = 3;
    private static final int FAR = 40;
    private static final int SEEDS = 65537;

    private static final int SNORER = 1;
    private static final int LIGHT = 2;
    private static final int CHILD = 3;

    /** Places in the row of numbers told for both towns. */
    private static final int VOW = 0;
    private static final int MONTH = 1;
    private static final int WIDE = 2;
    private static final int TURN = 3;
    private static final int ILL = 4;
    private static final int RULES = 5;

    /** The numbers of TROUBLE. */
    private static final int NO_SUCH = 1;
    private static final int BAD_NUMBER = 2;
    private static final int NO_ROOM = 3;
    private static final int FAULTY = 4;
    private static final int NOT_SO = 5;
    private static final int MISSING = 6;

    private final int[] tape = new int[TAPE];
    private int tapeSize = 0;
    private Towns told = new Towns();
    private final Reader reader = new Reader();
    private final State now = new State();
    private final Past past = new Past();
    private final Finder[] finders = {new Finder(), new Finder()};
    private final Finder[] clueFinders = {new Finder(), new Finder()};
    private final Finder sleeper = new Finder();
    private final Forecast forecast = new Forecast();
    private final Bridge bridgeAtSix = new Bridge();
    private int trouble = 0;

    public OtherTown() {
    }

    // ---- the towns

    public int feed(int a, int b, int c, int d, int e) {
        if (tapeSize + 20 > TAPE) {
            return NONE;
        }
        append(a);
        append(b);
        append(c);
        append(d);
        append(e);
        return tapeSize;
    }

    public int towns(int n) {
        if (n < 0 || n > tapeSize) {
            return refuse(BAD_NUMBER);
        }
        reader.begin(tape, n);
        // each LINE takes a byte at least, so there are no more LINES than bytes
        for (int line = 0; line <= TAPE && reader.goesOn(); line++) {
            reader.readLine(reader.openLine());
            reader.closeLine();
        }
        tapeSize = 0;
        if (!reader.finish()) {
            return refuse(FAULTY);
        }
        told = reader.handOver(told);
        now.begin(told);
        past.forgetAll();
        clueFinders[LEFT].forget();
        clueFinders[RIGHT].forget();
        changed();
        return answer(told.people);
    }

    public int fault() {
        return reader.fault;
    }

    public int where() {
        return trouble == FAULTY ? reader.place : NONE;
    }

    // ---- as told

    public int house(int h, int what) {
        if (!isHouse(h)) {
            return refuse(NO_SUCH);
        }
        switch (what) {
            case 0:
                return answer(told.side[h]);
            case 1:
                return answer(told.beds[h]);
            case 2:
                return answer(told.first[h]);
            case 3:
                return answer(told.hasKeeps(h) ? 1 : 0);
            default:
                return refuse(NO_SUCH);
        }
    }

    public int person(int p, int what) {
        if (!isPerson(p)) {
            return refuse(NO_SUCH);
        }
        switch (what) {
            case 0:
                return answer(told.kind[p]);
            case 1:
                return answer(told.home[p]);
            case 2:
                return answer(told.sideOf(p));
            case 3:
                return answer(told.walks[p]);
            case 4:
                return answer(told.kin[p]);
            case 5:
                return answer(told.foes[p]);
            case 6:
                return answer(now.isIll(p) ? 1 : 0);
            default:
                return refuse(NO_SUCH);
        }
    }

    public int houseOf(int bed) {
        return isBed(bed) ? answer(told.houseAt[bed]) : refuse(NO_SUCH);
    }

    public int wants(int p, int h) {
        return isPerson(p) && isHouse(h) ? answer(told.wantsOf(p, h)) : refuse(NO_SUCH);
    }

    // ---- tonight

    public int bed(int p) {
        return isPerson(p) ? answer(now.bed[p]) : refuse(NO_SUCH);
    }

    public int who(int bed) {
        return isBed(bed) ? answer(now.firstIn(told, bed)) : refuse(NO_SUCH);
    }

    public int wrong(int p) {
        return isPerson(p) ? answer(now.wrongAt(told, p, now.bed[p])) : refuse(NO_SUCH);
    }

    public int firstWrong() {
        return isTold() ? answer(now.firstWronged(told)) : refuse(NO_SUCH);
    }

    public int wrongIn(int p, int bed) {
        return isPerson(p) && isBed(bed) ? answer(now.wrongAt(told, p, bed)) : refuse(NO_SUCH);
    }

    public int worth(int side) {
        return isSide(side) ? answer(now.worthOf(told, side)) : refuse(NO_SUCH);
    }

    // ---- the best night

    public int rows(int side) {
        if (!isSide(side)) {
            return refuse(NO_SUCH);
        }
        finders[side].countRows(told, now, side);
        return answer(finders[side].found);
    }

    public int best(int p) {
        if (!isPerson(p)) {
            return refuse(NO_SUCH);
        }
        return answer(bestOf(told.sideOf(p)).row[p]);
    }

    public int bestChurch(int side) {
        return isSide(side) ? answer(bestOf(side).bestChurch) : refuse(NO_SUCH);
    }

    public int bestWorth(int side) {
        return isSide(side) ? answer(bestOf(side).bestWorth) : refuse(NO_SUCH);
    }

    // ---- what was, what is known

    public int turnsOf(int p) {
        return isPerson(p) ? answer(now.turns[p]) : refuse(NO_SUCH);
    }

    public int ago(int p, int bed) {
        return isPerson(p) && isBed(bed) ? answer(now.nightsAgo(p, bed)) : refuse(NO_SUCH);
    }

    public int slept(int p) {
        return isPerson(p) ? answer(now.housesSlept(told, p)) : refuse(NO_SUCH);
    }

    public int knows(int p) {
        return isPerson(p) ? answer(now.knows[p]) : refuse(NO_SUCH);
    }

    public int leaked(int h) {
        return isHouse(h) ? answer(now.leaksOf(told, h)) : refuse(NO_SUCH);
    }

    public int peace() {
        return isTold() ? answer(now.isPeace(told) ? 1 : 0) : refuse(NO_SUCH);
    }

    public int guests(int h) {
        return isHouse(h) ? answer(now.guestsOf(told, h)) : refuse(NO_SUCH);
    }

    public int together(int p, int q) {
        return isPerson(p) && isPerson(q) && p != q ? answer(now.metOf(p, q)) : refuse(NO_SUCH);
    }

    public int fair(int side) {
        return isSide(side) ? answer(now.fairness(told, side)) : refuse(NO_SUCH);
    }

    public int swap(int side) {
        return isSide(side) ? answer(now.bestSwap(told, side)) : refuse(NO_SUCH);
    }

    // ---- best nights to come

    public int peaceIn() {
        if (!isTold()) {
            return refuse(NO_SUCH);
        }
        for (int n = 0; n <= FAR && forecast.peaceAt < 0; n++) {
            forecast.reach(told, now, n);
        }
        return answer(forecast.peaceAt);
    }

    public int churchIn(int n) {
        if (!isTold()) {
            return refuse(NO_SUCH);
        }
        if (n < 0 || n > FAR) {
            return refuse(BAD_NUMBER);
        }
        forecast.reach(told, now, n);
        return answer(forecast.church[n]);
    }

    public int knowsIn(int p, int n) {
        if (!isPerson(p)) {
            return refuse(NO_SUCH);
        }
        if (n < 0 || n > FAR) {
            return refuse(BAD_NUMBER);
        }
        forecast.reach(told, now, n);
        return answer(forecast.knownBy(p, n));
    }

    public int leaksIn(int h) {
        if (!isHouse(h) || !isTold()) {
            return refuse(NO_SUCH);
        }
        for (int n = 0; n <= FAR; n++) {
            forecast.reach(told, now, n);
            if (forecast.hasLeaked(told, h, n)) {
                return answer(n);
            }
        }
        return answer(CHURCH);
    }

    // ---- the bridge

    public int crossed() {
        return isTold() ? answer(bridgeAtSix.leastMinutes(told, now)) : refuse(NO_SUCH);
    }

    public int bridge(int order, boolean waits) {
        if (!isOrder(order)) {
            return refuse(NO_SUCH);
        }
        bridgeAtSix.walkBy(told, now, order);
        return answer(waits ? bridgeAtSix.waited : bridgeAtSix.over);
    }

    public int lastOver(int order) {
        if (!isOrder(order)) {
            return refuse(NO_SUCH);
        }
        bridgeAtSix.walkBy(told, now, order);
        return answer(bridgeAtSix.last);
    }

    // ---- bargains

    public int rests(int h) {
        int refused = bargainTrouble(h);
        return refused == 0 ? answer(Bargain.restsOf(told, h)) : refuse(refused);
    }

    public int holds(int h, boolean lower) {
        int refused = bargainTrouble(h);
        return refused == 0 ? answer(Bargain.holdsBy(told, h, lower)) : refuse(refused);
    }

    public int plays(int h, int one, int other, int n) {
        if (!Bargain.isRule(one) || !Bargain.isRule(other)) {
            return refuse(NO_SUCH);
        }
        int refused = bargainTrouble(h);
        if (refused != 0) {
            return refuse(refused);
        }
        return Bargain.isLength(n) ? answer(Bargain.played(told, h, one, other, n)) : refuse(BAD_NUMBER);
    }

    public int bestRule(int h, int n) {
        int refused = bargainTrouble(h);
        if (refused != 0) {
            return refuse(refused);
        }
        return Bargain.isLength(n) ? answer(Bargain.mostByRule(told, h, n)) : refuse(BAD_NUMBER);
    }

    // ---- clues

    public int fits(int side) {
        return isSide(side) ? answer(fitsOf(side).found) : refuse(NO_SUCH);
    }

    public int could(int p) {
        if (!isPerson(p)) {
            return refuse(NO_SUCH);
        }
        return answer(fitsOf(told.sideOf(p)).housesInSome(told, p));
    }

    public int surely(int p) {
        if (!isPerson(p)) {
            return refuse(NO_SUCH);
        }
        return answer(fitsOf(told.sideOf(p)).houseInAll(told, p));
    }

    public int fitsWith(int p, int bed) {
        if (!isPerson(p) || !isPlace(bed)) {
            return refuse(NO_SUCH);
        }
        return answer(fitsOf(told.sideOf(p)).foundWith(p, bed));
    }

    public int ask(int side) {
        if (!isSide(side)) {
            return refuse(NO_SUCH);
        }
        int asked = fitsOf(side).bedToAsk(told, 1 - side);
        return asked == CHURCH ? refuse(MISSING) : answer(asked);
    }

    // ---- acts

    public boolean lays(int p, int bed) {
        if (!isPerson(p) || !isPlace(bed)) {
            return refuses(NO_SUCH);
        }
        if (now.bed[p] == bed) {
            return refuses(NOT_SO);
        }
        past.keep(now);
        now.bed[p] = bed;
        changed();
        return grants();
    }

    public int laysBest(int side) {
        if (!isSide(side)) {
            return refuse(NO_SUCH);
        }
        Finder found = bestOf(side);
        past.keep(now);
        found.layRow(told, now, side);
        int church = found.bestChurch;
        changed();
        return answer(church);
    }

    public int night() {
        if (!isTold()) {
            return refuse(NO_SUCH);
        }
        if (now.firstWronged(told) != CHURCH) {
            return refuse(NOT_SO);
        }
        past.keep(now);
        now.sleep(told);
        changed();
        return answer(now.nights);
    }

    public int nights(int n) {
        if (!isTold()) {
            return refuse(NO_SUCH);
        }
        if (n < 1 || n > FAR) {
            return refuse(BAD_NUMBER);
        }
        past.keep(now);
        for (int i = 0; i < n; i++) {
            sleeper.bestNight(told, now);
        }
        changed();
        return answer(now.nights);
    }

    public boolean seed(int v) {
        if (!isTold()) {
            return refuses(NO_SUCH);
        }
        if (v < 0 || v >= SEEDS) {
            return refuses(BAD_NUMBER);
        }
        now.seed = v;
        changed();
        return grants();
    }

    public boolean undo() {
        if (past.count == 0) {
            return refuses(MISSING);
        }
        past.restore(now);
        changed();
        return grants();
    }

    public int image() {
        if (!isTold()) {
            return refuse(NO_SUCH);
        }
        int number = past.addImage(now);
        return number == NONE ? refuse(NO_ROOM) : answer(number);
    }

    public boolean back(int image) {
        if (!past.goBack(now, image)) {
            return refuses(NO_SUCH);
        }
        changed();
        return grants();
    }

    // ---- what is told

    public int led(int i) throws NoSuchElementException {
        int before = 0;
        for (int p = 0; p < told.people; p++) {
            if (now.bed[p] == CHURCH) {
                if (before == i) {
                    return p;
                }
                before++;
            }
        }
        throw new NoSuchElementException("nobody of that number is in the church");
    }

    public int size(int what) {
        if (what >= VOW && what <= TURN) {
            return told.rules[what];
        }
        switch (what) {
            case 4:
                return told.houses;
            case 5:
                return told.bedCount;
            case 6:
                return told.people;
            case 7:
                return told.rules[ILL];
            case 8:
                return told.clues;
            case 9:
                return now.nights;
            case 10:
                return now.seed;
            case 11:
                return past.count;
            case 12:
                return past.imageCount;
            case 13:
                return tapeSize;
            default:
                return NONE;
        }
    }

    public int trouble() {
        return trouble;
    }

    // ---- what the calls share

    private void append(int four) {
        for (int shift = 24; shift >= 0 && tapeSize < TAPE; shift -= 8) {
            tape[tapeSize] = four >> shift & 255;
            tapeSize++;
        }
    }

    private int refuse(int number) {
        trouble = number;
        return NONE;
    }

    private int answer(int value) {
        trouble = 0;
        return value;
    }

    private boolean refuses(int number) {
        trouble = number;
        return false;
    }

    private boolean grants() {
        trouble = 0;
        return true;
    }

    /** What was worked out of NOW holds no longer; the FITS do, as they hang on the TOWNS alone. */
    private void changed() {
        finders[LEFT].forget();
        finders[RIGHT].forget();
        forecast.forget();
    }

    /** TOWNS have a person at least, so none of them means that there are no TOWNS. */
    private boolean isTold() {
        return told.people > 0;
    }

    private boolean isSide(int side) {
        return isTold() && (side == LEFT || side == RIGHT);
    }

    private boolean isHouse(int h) {
        return h >= 0 && h < told.houses;
    }

    private boolean isPerson(int p) {
        return p >= 0 && p < told.people;
    }

    private boolean isBed(int bed) {
        return bed >= 0 && bed < told.bedCount;
    }

    private boolean isPlace(int bed) {
        return bed == CHURCH || isBed(bed);
    }

    private boolean isOrder(int order) {
        return isTold() && order >= Bridge.BY_NUMBERS && order <= Bridge.SLOW_FIRST;
    }

    private int bargainTrouble(int h) {
        if (!isHouse(h)) {
            return NO_SUCH;
        }
        return told.hasKeeps(h) ? 0 : MISSING;
    }

    private Finder bestOf(int side) {
        Finder finder = finders[side == RIGHT ? RIGHT : LEFT];
        finder.seekBest(told, now, side);
        return finder;
    }

    private Finder fitsOf(int side) {
        Finder finder = clueFinders[side == RIGHT ? RIGHT : LEFT];
        finder.countFits(told, side);
        return finder;
    }

    /** The TOWNS as told: nothing here changes by an ACT. */
    private static final class Towns {
        final int[] rules = new int[RULES];
        int houses = 0;
        final int[] side = new int[HOUSES];
        final int[] beds = new int[HOUSES];
        final int[] first = new int[HOUSES];
        final int[] keeps = new int[HOUSES * 4];
        int bedCount = 0;
        final int[] houseAt = new int[BEDS];
        int people = 0;
        final int[] kind = new int[PEOPLE];
        final int[] home = new int[PEOPLE];
        final int[] walks = new int[PEOPLE];
        final int[] kin = new int[PEOPLE];
        final int[] foes = new int[PEOPLE];
        /** The light ones for a snorer, the snorers for a light one. */
        final int[] jars = new int[PEOPLE];
        /** Others of like kin who are no children. */
        final int[] elders = new int[PEOPLE];
        final int[] wants = new int[PEOPLE * HOUSES];
        final int[] shoes = new int[PEOPLE];
        int cold = 0;
        int clues = 0;

        void clear() {
            Arrays.fill(rules, 0);
            houses = 0;
            Arrays.fill(keeps, NONE);
            bedCount = 0;
            people = 0;
            Arrays.fill(foes, 0);
            Arrays.fill(jars, 0);
            Arrays.fill(elders, 0);
            Arrays.fill(wants, 0);
            Arrays.fill(shoes, 0);
            cold = 0;
            clues = 0;
        }

        void addHouse(int itsSide, int itsBeds) {
            if (houses >= HOUSES || bedCount + itsBeds > BEDS) {
                return;
            }
            side[houses] = itsSide;
            beds[houses] = itsBeds;
            first[houses] = bedCount;
            for (int b = bedCount; b < bedCount + itsBeds; b++) {
                houseAt[b] = houses;
            }
            bedCount += itsBeds;
            houses++;
        }

        void addPerson(int itsKind, int itsHome, int itsWalks, int itsKin) {
            if (people >= PEOPLE) {
                return;
            }
            kind[people] = itsKind;
            home[people] = itsHome;
            walks[people] = itsWalks;
            kin[people] = itsKin;
            people++;
        }

        void addFoes(int p, int q) {
            foes[p] |= 1 << q;
            foes[q] |= 1 << p;
        }

        /** Works out once what is asked for each bed that is tried. */
        void settle() {
            for (int p = 0; p < people; p++) {
                for (int q = 0; q < people; q++) {
                    if (kind[p] == SNORER && kind[q] == LIGHT || kind[p] == LIGHT && kind[q] == SNORER) {
                        jars[p] |= 1 << q;
                    }
                    if (p != q && kin[p] == kin[q] && kind[q] != CHILD) {
                        elders[p] |= 1 << q;
                    }
                }
            }
        }

        int sideOf(int p) {
            return side[home[p]];
        }

        int bedSide(int b) {
            return side[houseAt[b]];
        }

        int wantsOf(int p, int h) {
            return wants[p * HOUSES + h];
        }

        boolean hasKeeps(int h) {
            return keeps[h * 4] >= 0;
        }

        int bedsOn(int aSide) {
            int sum = 0;
            for (int h = 0; h < houses; h++) {
                sum += side[h] == aSide ? beds[h] : 0;
            }
            return sum;
        }

        int housesOn(int aSide) {
            int sum = 0;
            for (int h = 0; h < houses; h++) {
                sum += side[h] == aSide ? 1 : 0;
            }
            return sum;
        }

        int peopleOf(int aSide) {
            int bits = 0;
            for (int p = 0; p < people; p++) {
                bits |= sideOf(p) == aSide ? 1 << p : 0;
            }
            return bits;
        }
    }

    /** Reads THE TAPE into a draft, so that the TOWNS stay when there is a FAULT. */
    private static final class Reader {
        private static final int FORM = 1;
        private static final int UNKNOWN = 2;
        private static final int AGAIN = 3;
        private static final int BOUNDS = 4;
        private static final int MANY = 5;
        private static final int LACKS = 6;
        private static final int OWN_SIDE = 7;

        private static final int END = 0;
        private static final int WORD = 1;
        private static final int WHOLE = 2;
        private static final int SEMICOLON = 3;
        private static final int NO_TOKEN = 4;

        private static final int TOWNS_LINE = 0;
        private static final int HOUSE_LINE = 1;
        private static final int PERSON_LINE = 2;
        private static final int FOES_LINE = 3;
        private static final int WANTS_LINE = 4;
        private static final int KEEPS_LINE = 5;
        private static final int ILL_LINE = 6;
        private static final int SHOE_LINE = 7;
        private static final int COLD_LINE = 8;
        private static final int NO_LINE = 9;

        private static final int MOST_FOES = 6;
        private static final int MOST_WANTS = 12;
        private static final int MOST_CLUES = 6;

        int fault = 0;
        int place = 0;
        private Towns draft = new Towns();
        private final int[] bytes = new int[TAPE];
        private final long[] houseNames = new long[HOUSES];
        private final long[] personNames = new long[PEOPLE];
        private int end = 0;
        private int pos = 0;
        private int token = END;
        /** Of a WORD, which it is; of a WHOLE, how much. */
        private long value = 0;
        private boolean begun = false;
        private boolean illTold = false;
        private int foesTold = 0;
        private int wantsTold = 0;

        /** The draft goes out as the TOWNS; the old ones serve as the next draft. */
        Towns handOver(Towns old) {
            Towns read = draft;
            draft = old;
            return read;
        }

        void begin(int[] tape, int n) {
            end = Math.max(0, Math.min(n, Math.min(tape.length, TAPE)));
            System.arraycopy(tape, 0, bytes, 0, end);
            draft.clear();
            fault = 0;
            place = 0;
            pos = 0;
            token = SEMICOLON;
            begun = false;
            illTold = false;
            foesTold = 0;
            wantsTold = 0;
        }

        /** A LINE must come at first, and behind each semicolon. */
        boolean goesOn() {
            return fault == 0 && token == SEMICOLON;
        }

        int openLine() {
            next();
            int sort = lineSort();
            int bad = lineFault(sort);
            if (bad == 0) {
                return sort;
            }
            fail(bad);
            return NO_LINE;
        }

        void closeLine() {
            next();
            if (token != SEMICOLON && token != END) {
                fail(FORM);
            }
        }

        boolean finish() {
            if (draft.houses == 0 || draft.people == 0) {
                fail(LACKS);
            }
            draft.settle();
            return fault == 0;
        }

        /** Only the first FAULT counts: behind it nothing more is read, and place stays. */
        private void fail(int number) {
            if (fault == 0) {
                fault = number;
            }
        }

        private void next() {
            if (fault != 0) {
                token = NO_TOKEN;
                return;
            }
            while (pos < end && bytes[pos] == ' ') {
                pos++;
            }
            place = pos;
            int c = pos < end ? bytes[pos] : 0;
            if (pos >= end) {
                token = END;
            } else if (c >= 'a' && c <= 'z') {
                token = readRun('a', 'z', 27) <= 8 ? WORD : NO_TOKEN;
            } else if (c >= '0' && c <= '9') {
                token = readRun('0', '9', 10) <= 3 ? WHOLE : NO_TOKEN;
            } else {
                token = c == ';' ? SEMICOLON : NO_TOKEN;
                pos++;
            }
        }

        /** All that stand together, as a number: letters count from 1 to 26, digits from 0 to 9. */
        private int readRun(int first, int last, int base) {
            value = 0;
            while (pos < end && bytes[pos] >= first && bytes[pos] <= last) {
                value = value * base + (bytes[pos] - last + base - 1);
                pos++;
            }
            return pos - place;
        }

        /** Whether the TOKEN is this very WORD. */
        private boolean says(String text) {
            if (token != WORD || text.length() != pos - place) {
                return false;
            }
            for (int i = 0; i < text.length(); i++) {
                if (bytes[place + i] != text.charAt(i)) {
                    return false;
                }
            }
            return true;
        }

        private int lineSort() {
            if (says("towns")) {
                return TOWNS_LINE;
            }
            if (says("house")) {
                return HOUSE_LINE;
            }
            if (says("person")) {
                return PERSON_LINE;
            }
            if (says("foes")) {
                return FOES_LINE;
            }
            if (says("wants")) {
                return WANTS_LINE;
            }
            if (says("keeps")) {
                return KEEPS_LINE;
            }
            if (says("ill")) {
                return ILL_LINE;
            }
            if (says("shoe")) {
                return SHOE_LINE;
            }
            return says("cold") ? COLD_LINE : NO_LINE;
        }

        void readLine(int sort) {
            switch (sort) {
                case TOWNS_LINE:
                    readTowns();
                    break;
                case HOUSE_LINE:
                    readHouse();
                    break;
                case PERSON_LINE:
                    readPerson();
                    break;
                case FOES_LINE:
                    readFoes();
                    break;
                case WANTS_LINE:
                    readWants();
                    break;
                case KEEPS_LINE:
                    readKeeps();
                    break;
                case ILL_LINE:
                    readIll();
                    break;
                case SHOE_LINE:
                    readShoe();
                    break;
                case COLD_LINE:
                    readCold();
                    break;
                default:
                    break;
            }
        }

        private int lineFault(int sort) {
            if (sort == NO_LINE) {
                return FORM;
            }
            if (sort == TOWNS_LINE) {
                return begun ? AGAIN : 0;
            }
            if (!begun) {
                return LACKS;
            }
            if (sort == ILL_LINE) {
                return illTold ? AGAIN : 0;
            }
            return isFull(sort) ? MANY : 0;
        }

        private boolean isFull(int sort) {
            switch (sort) {
                case HOUSE_LINE:
                    return draft.houses >= HOUSES;
                case PERSON_LINE:
                    return draft.people >= PEOPLE;
                case FOES_LINE:
                    return foesTold >= MOST_FOES;
                case WANTS_LINE:
                    return wantsTold >= MOST_WANTS;
                case SHOE_LINE:
                case COLD_LINE:
                    return draft.clues >= MOST_CLUES;
                default:
                    return false;
            }
        }

        private void readTowns() {
            begun = true;
            draft.rules[VOW] = namedWhole("vow", 1, 6);
            draft.rules[MONTH] = namedWhole("month", 0, 30);
            draft.rules[WIDE] = namedWhole("wide", 1, LANES);
            draft.rules[TURN] = namedWhole("turn", 0, 9);
        }

        private void readHouse() {
            long name = newName();
            next();
            int side = says("left") ? LEFT : says("right") ? RIGHT : NONE;
            if (side == NONE) {
                fail(FORM);
            }
            int beds = namedWhole("beds", 1, 3);
            if (fault == 0 && draft.bedsOn(side) + beds > SIDE_BEDS) {
                fail(MANY);
            }
            if (fault == 0 && draft.houses < HOUSES) {
                houseNames[draft.houses] = name;
                draft.addHouse(side, beds);
            }
        }

        private void readPerson() {
            long name = newName();
            next();
            int kind = kindSaid();
            if (kind == NONE) {
                fail(FORM);
            }
            keyword("of");
            int home = toldHouse();
            if (fault == 0 && Integer.bitCount(draft.peopleOf(draft.side[home])) >= SIDE_PEOPLE) {
                fail(MANY);
            }
            int walks = namedWhole("walks", 1, 9);
            int kin = namedWhole("kin", 0, 9);
            if (fault == 0 && draft.people < PEOPLE) {
                personNames[draft.people] = name;
                draft.addPerson(kind, home, walks, kin);
            }
        }

        private int kindSaid() {
            if (says("plain")) {
                return 0;
            }
            if (says("snorer")) {
                return SNORER;
            }
            if (says("light")) {
                return LIGHT;
            }
            return says("child") ? CHILD : NONE;
        }

        private void readFoes() {
            int p = toldPerson();
            int q = toldPerson();
            if (p == q || (draft.foes[p] >> q & 1) != 0) {
                fail(AGAIN);
            }
            if (fault == 0) {
                draft.addFoes(p, q);
                foesTold++;
            }
        }

        private void readWants() {
            int p = toldPerson();
            int h = toldHouse();
            if (draft.wantsOf(p, h) != 0) {
                fail(AGAIN);
            }
            refuseOwnSide(p, h);
            int much = whole(1, 9);
            if (fault == 0) {
                draft.wants[p * HOUSES + h] = much;
                wantsTold++;
            }
        }

        private void readKeeps() {
            int h = toldHouse();
            if (fault == 0 && draft.hasKeeps(h)) {
                fail(AGAIN);
            }
            for (int i = 0; i < 4; i++) {
                int much = whole(0, 99);
                if (fault == 0) {
                    draft.keeps[h * 4 + i] = much;
                }
            }
        }

        private void readIll() {
            illTold = true;
            draft.rules[ILL] = whole(0, 100);
        }

        private void readShoe() {
            int p = toldPerson();
            int h = toldHouse();
            refuseOwnSide(p, h);
            if (fault == 0) {
                draft.shoes[p] |= 1 << h;
                draft.clues++;
            }
        }

        private void readCold() {
            int h = toldHouse();
            int bed = whole(0, draft.beds[h] - 1);
            if (fault == 0) {
                draft.cold |= 1 << draft.first[h] + bed;
                draft.clues++;
            }
        }

        private void refuseOwnSide(int p, int h) {
            if (fault == 0 && draft.sideOf(p) == draft.side[h]) {
                fail(OWN_SIDE);
            }
        }

        private void keyword(String text) {
            next();
            if (!says(text)) {
                fail(FORM);
            }
        }

        private int namedWhole(String name, int low, int high) {
            keyword(name);
            return whole(low, high);
        }

        private int whole(int low, int high) {
            next();
            if (token != WHOLE) {
                fail(FORM);
                return 0;
            }
            if (value < low || value > high) {
                fail(BOUNDS);
            }
            return (int) value;
        }

        private void readName() {
            next();
            if (token != WORD || lineSort() != NO_LINE) {
                fail(FORM);
            }
        }

        private long newName() {
            readName();
            if (fault == 0 && (placeIn(houseNames, draft.houses) != NONE
                    || placeIn(personNames, draft.people) != NONE)) {
                fail(AGAIN);
            }
            return value;
        }

        /** Behind a FAULT it answers 0, which is safe as an index; nothing is put there then. */
        private int toldHouse() {
            readName();
            return known(placeIn(houseNames, draft.houses));
        }

        private int toldPerson() {
            readName();
            return known(placeIn(personNames, draft.people));
        }

        private int known(int found) {
            if (found == NONE) {
                fail(UNKNOWN);
            }
            return fault == 0 ? found : 0;
        }

        private int placeIn(long[] names, int count) {
            for (int i = 0; i < count && i < names.length; i++) {
                if (names[i] == value) {
                    return i;
                }
            }
            return NONE;
        }
    }

    /** TONIGHT, and all that NIGHTS have left behind: what an ACT changes and UNDO brings back. */
    private static final class State {
        final int[] bed = new int[PEOPLE];
        final int[] turns = new int[PEOPLE];
        final int[] knows = new int[PEOPLE];
        /** The number of the NIGHT in which one slept in a bed last; 0 never. */
        private final int[] last = new int[PEOPLE * BEDS];
        /** NIGHTS of two in one HOUSE, kept at the lesser number first. */
        private final int[] met = new int[PEOPLE * PEOPLE];
        private int illOnes = 0;
        int seed = 0;
        int nights = 0;

        void begin(Towns t) {
            Arrays.fill(bed, CHURCH);
            Arrays.fill(turns, 0);
            Arrays.fill(last, 0);
            Arrays.fill(met, 0);
            for (int p = 0; p < t.people; p++) {
                knows[p] = 1 << t.home[p];
            }
            illOnes = 0;
            seed = 0;
            nights = 0;
        }

        void copyFrom(State other) {
            System.arraycopy(other.bed, 0, bed, 0, PEOPLE);
            System.arraycopy(other.turns, 0, turns, 0, PEOPLE);
            System.arraycopy(other.knows, 0, knows, 0, PEOPLE);
            System.arraycopy(other.last, 0, last, 0, PEOPLE * BEDS);
            System.arraycopy(other.met, 0, met, 0, PEOPLE * PEOPLE);
            illOnes = other.illOnes;
            seed = other.seed;
            nights = other.nights;
        }

        boolean isIll(int p) {
            return (illOnes >> p & 1) != 0;
        }

        int firstIn(Towns t, int b) {
            for (int p = 0; p < t.people; p++) {
                if (bed[p] == b) {
                    return p;
                }
            }
            return CHURCH;
        }

        int houseOfSleeper(Towns t, int p) {
            return bed[p] >= 0 ? t.houseAt[bed[p]] : NONE;
        }

        /** All in beds of a HOUSE, one aside, as bits. */
        private int othersIn(Towns t, int h, int p) {
            int bits = 0;
            for (int q = 0; q < t.people; q++) {
                if (q != p && houseOfSleeper(t, q) == h) {
                    bits |= 1 << q;
                }
            }
            return bits;
        }

        int wrongAt(Towns t, int p, int b) {
            if (b < 0) {
                return 0;
            }
            if (t.bedSide(b) == t.sideOf(p)) {
                return 1;
            }
            int first = firstIn(t, b);
            if (first >= 0 && first < p) {
                return 2;
            }
            if (sleptLately(t, p, b)) {
                return 3;
            }
            int others = othersIn(t, t.houseAt[b], p);
            if ((others & t.foes[p]) != 0) {
                return 4;
            }
            if ((others & t.jars[p]) != 0) {
                return 5;
            }
            if (t.kind[p] == CHILD && (others & t.elders[p]) == 0) {
                return 6;
            }
            return isIll(p) ? 7 : 0;
        }

        boolean sleptLately(Towns t, int p, int b) {
            int ago = nightsAgo(p, b);
            return ago > 0 && ago <= t.rules[MONTH];
        }

        int nightsAgo(int p, int b) {
            int when = last[p * BEDS + b];
            return when == 0 ? CHURCH : nights - when + 1;
        }

        int firstWronged(Towns t) {
            for (int p = 0; p < t.people; p++) {
                if (wrongAt(t, p, bed[p]) != 0) {
                    return p;
                }
            }
            return CHURCH;
        }

        int worthOf(Towns t, int side) {
            int sum = 0;
            for (int p = 0; p < t.people; p++) {
                if (bed[p] >= 0 && t.sideOf(p) == side) {
                    sum += t.wantsOf(p, t.houseAt[bed[p]]);
                }
            }
            return sum;
        }

        int housesSlept(Towns t, int p) {
            int bits = 0;
            for (int b = 0; b < t.bedCount; b++) {
                if (last[p * BEDS + b] != 0) {
                    bits |= 1 << t.houseAt[b];
                }
            }
            return bits;
        }

        int guestsOf(Towns t, int h) {
            int bits = 0;
            for (int p = 0; p < t.people; p++) {
                bits |= (housesSlept(t, p) >> h & 1) << p;
            }
            return bits;
        }

        int leaksOf(Towns t, int h) {
            int sum = 0;
            for (int p = 0; p < t.people; p++) {
                if (t.sideOf(p) != t.side[h]) {
                    sum += knows[p] >> h & 1;
                }
            }
            return sum;
        }

        boolean isPeace(Towns t) {
            for (int p = 0; p < t.people; p++) {
                int due = Math.min(t.rules[VOW], t.housesOn(1 - t.sideOf(p)));
                if (Integer.bitCount(housesSlept(t, p)) < due) {
                    return false;
                }
            }
            return true;
        }

        int metOf(int p, int q) {
            return met[Math.min(p, q) * PEOPLE + Math.max(p, q)];
        }

        int fairness(Towns t, int side) {
            int most = -1;
            int least = -1;
            for (int p = 0; p < t.people; p++) {
                if (t.sideOf(p) == side) {
                    most = Math.max(most, turns[p]);
                    least = least < 0 ? turns[p] : Math.min(least, turns[p]);
                }
            }
            return most - least;
        }

        int bestSwap(Towns t, int side) {
            int most = worthOf(t, side);
            int first = CHURCH;
            for (int p = 0; p < t.people; p++) {
                for (int q = p + 1; q < t.people; q++) {
                    if (canChange(t, p, side) && canChange(t, q, side)) {
                        change(p, q);
                        int worth = worthOf(t, side);
                        if (worth > most && isRight(t, side)) {
                            most = worth;
                            first = 100 * p + q;
                        }
                        change(p, q);
                    }
                }
            }
            return first;
        }

        private boolean canChange(Towns t, int p, int side) {
            return bed[p] >= 0 && t.sideOf(p) == side;
        }

        private void change(int p, int q) {
            int his = bed[p];
            bed[p] = bed[q];
            bed[q] = his;
        }

        private boolean isRight(Towns t, int side) {
            for (int p = 0; p < t.people; p++) {
                if (t.sideOf(p) == side && wrongAt(t, p, bed[p]) != 0) {
                    return false;
                }
            }
            return true;
        }

        /** A NIGHT; that nothing is WRONG is looked at by who calls it. */
        void sleep(Towns t) {
            nights++;
            for (int p = 0; p < t.people; p++) {
                if (bed[p] < 0) {
                    turns[p]++;
                } else {
                    last[p * BEDS + bed[p]] = nights;
                    knows[p] |= 1 << t.houseAt[bed[p]];
                }
            }
            meet(t);
            tellAll(t, false);
            tellAll(t, true);
            draw(t);
        }

        private void meet(Towns t) {
            for (int p = 0; p < t.people; p++) {
                for (int q = p + 1; q < t.people; q++) {
                    if (bed[p] >= 0 && houseOfSleeper(t, p) == houseOfSleeper(t, q)) {
                        met[p * PEOPLE + q]++;
                    }
                }
            }
        }

        /** Those who tell each other are groups, so the first of each can gather for all of it. */
        private void tellAll(Towns t, boolean atHome) {
            for (int p = 0; p < t.people; p++) {
                int all = 0;
                for (int q = p; q < t.people; q++) {
                    all |= tells(t, p, q, atHome) ? knows[q] : 0;
                }
                for (int q = p; q < t.people; q++) {
                    knows[q] = tells(t, p, q, atHome) ? all : knows[q];
                }
            }
        }

        private boolean tells(Towns t, int p, int q, boolean atHome) {
            if (p == q) {
                return true;
            }
            if (atHome) {
                return t.home[p] == t.home[q];
            }
            return bed[p] >= 0 && t.kin[p] == t.kin[q] && houseOfSleeper(t, p) == houseOfSleeper(t, q);
        }

        private void draw(Towns t) {
            illOnes = 0;
            for (int p = 0; p < t.people; p++) {
                seed = (75 * seed + 74) % SEEDS;
                illOnes |= seed % 100 < t.rules[ILL] ? 1 << p : 0;
            }
        }
    }

    /** The states that UNDO and IMAGES go back to. */
    private static final class Past {
        private final State[] kept = new State[KEPT];
        private int top = 0;
        int count = 0;
        private final State[] images = new State[IMAGES];
        int imageCount = 0;

        Past() {
            for (int i = 0; i < KEPT; i++) {
                kept[i] = new State();
            }
            for (int i = 0; i < IMAGES; i++) {
                images[i] = new State();
            }
        }

        void forgetAll() {
            count = 0;
            imageCount = 0;
        }

        void keep(State state) {
            kept[top].copyFrom(state);
            top = top + 1 < KEPT ? top + 1 : 0;
            count = Math.min(KEPT, count + 1);
        }

        void restore(State state) {
            if (count > 0) {
                top = top > 0 ? top - 1 : KEPT - 1;
                count--;
                state.copyFrom(kept[top]);
            }
        }

        int addImage(State state) {
            if (imageCount >= IMAGES) {
                return NONE;
            }
            images[imageCount].copyFrom(state);
            imageCount++;
            return imageCount - 1;
        }

        boolean goBack(State state, int image) {
            if (image < 0 || image >= imageCount) {
                return false;
            }
            state.copyFrom(images[image]);
            count = 0;
            return true;
        }
    }

    /**
     * Goes through the ROWS, or the FITS, of a SIDE: counts them, or seeks the best.
     * What was found stays till it is forgotten, as most calls ask again of the same state.
     */
    private static final class Finder {
        /** Stands behind all beds, as the church does in the order of ROWS. */
        private static final int CHURCH_PLACE = BEDS;
        private static final int PLACES = BEDS + 1;

        private static final int COUNT = 0;
        private static final int SEEK = 1;

        private int task = COUNT;
        private boolean counted = false;
        private boolean sought = false;
        private int size = 0;
        private final int[] who = new int[SIDE_PEOPLE];
        private final int[] open = new int[SIDE_PEOPLE];
        private final int[] lies = new int[SIDE_PEOPLE];
        private int taken = 0;
        private final int[] inside = new int[HOUSES];

        private final Score soFar = new Score();
        private final Score top = new Score();
        private final Score[] rest = new Score[SIDE_PEOPLE + 1];
        private final int[] turns = new int[SIDE_PEOPLE];

        int found = 0;
        private final int[] tally = new int[PEOPLE * PLACES];
        int bestChurch = 0;
        int bestWorth = 0;
        final int[] row = new int[PEOPLE];

        Finder() {
            for (int i = 0; i <= SIDE_PEOPLE; i++) {
                rest[i] = new Score();
            }
        }

        void forget() {
            counted = false;
            sought = false;
        }

        void countRows(Towns t, State s, int side) {
            if (!counted) {
                gather(t, side);
                openRows(t, s);
                countAll(t);
            }
        }

        void countFits(Towns t, int side) {
            if (!counted) {
                gather(t, side);
                openFits(t);
                countAll(t);
            }
        }

        private void countAll(Towns t) {
            task = COUNT;
            found = 0;
            Arrays.fill(tally, 0);
            fill(t, 0);
            counted = true;
        }

        void seekBest(Towns t, State s, int side) {
            if (sought) {
                return;
            }
            gather(t, side);
            openRows(t, s);
            shutOutAlone(t);
            addUpRest(t, s);
            task = SEEK;
            soFar.set(0, 0, 0);
            top.set(PEOPLE + 1, 0, 0);
            fill(t, 0);
            bestChurch = top.church;
            bestWorth = top.worth;
            sought = true;
        }

        void layRow(Towns t, State s, int side) {
            for (int p = 0; p < t.people; p++) {
                if (t.sideOf(p) == side) {
                    s.bed[p] = row[p];
                }
            }
        }

        void bestNight(Towns t, State s) {
            for (int side = LEFT; side <= RIGHT; side++) {
                forget();
                seekBest(t, s, side);
                layRow(t, s, side);
            }
            forget();
            s.sleep(t);
        }

        private void gather(Towns t, int side) {
            size = 0;
            taken = 0;
            Arrays.fill(inside, 0);
            for (int p = 0; p < t.people && size < SIDE_PEOPLE; p++) {
                if (t.sideOf(p) == side) {
                    who[size] = p;
                    size++;
                }
            }
        }

        private void openRows(Towns t, State s) {
            for (int i = 0; i < size; i++) {
                open[i] = 1 << CHURCH_PLACE;
                for (int b = 0; b < t.bedCount; b++) {
                    if (t.bedSide(b) != t.sideOf(who[i]) && !s.isIll(who[i]) && !s.sleptLately(t, who[i], b)) {
                        open[i] |= 1 << b;
                    }
                }
            }
        }

        private void openFits(Towns t) {
            for (int i = 0; i < size; i++) {
                int shoes = t.shoes[who[i]];
                open[i] = shoes == 0 ? 1 << CHURCH_PLACE : 0;
                for (int b = 0; b < t.bedCount; b++) {
                    boolean fitting = shoes == 0 || shoes == 1 << t.houseAt[b];
                    if (fitting && t.bedSide(b) != t.sideOf(who[i]) && (t.cold >> b & 1) == 0) {
                        open[i] |= 1 << b;
                    }
                }
            }
        }

        /** A child whom nobody could mind is left the church alone, so that the search counts with it. */
        private void shutOutAlone(Towns t) {
            int lying = 0;
            for (int i = 0; i < size; i++) {
                lying |= open[i] == 1 << CHURCH_PLACE ? 0 : 1 << who[i];
            }
            for (int i = 0; i < size; i++) {
                if (t.kind[who[i]] == CHILD && (lying & t.elders[who[i]]) == 0) {
                    open[i] = 1 << CHURCH_PLACE;
                }
            }
        }

        /** What those from each place on add at best: by it most of the search is cut off. */
        private void addUpRest(Towns t, State s) {
            rest[size].set(0, 0, 0);
            for (int i = size - 1; i >= 0; i--) {
                turns[i] = s.turns[who[i]];
                rest[i].copyFrom(rest[i + 1]);
                if (open[i] == 1 << CHURCH_PLACE) {
                    rest[i].add(1, turns[i], 0);
                } else {
                    rest[i].add(0, 0, mostWanted(t, i));
                }
            }
        }

        private int mostWanted(Towns t, int i) {
            int most = 0;
            for (int b = 0; b < t.bedCount; b++) {
                if ((open[i] >> b & 1) != 0) {
                    most = Math.max(most, t.wantsOf(who[i], t.houseAt[b]));
                }
            }
            return most;
        }

        /** Places those from the i-th on; i is at most SIDE_PEOPLE, so it goes no deeper than that. */
        private void fill(Towns t, int i) {
            if (task == SEEK && !soFar.beatsWith(rest[Math.min(i, SIDE_PEOPLE)], top)) {
                return;
            }
            if (i >= size || i >= SIDE_PEOPLE) {
                take(t);
                return;
            }
            int free = open[i] & ~taken;
            for (int b = 0; b < t.bedCount; b++) {
                if ((free >> b & 1) != 0) {
                    fillBed(t, i, b);
                }
            }
            if ((free >> CHURCH_PLACE & 1) != 0) {
                lies[i] = CHURCH_PLACE;
                soFar.add(1, turns[i], 0);
                fill(t, i + 1);
                soFar.add(-1, -turns[i], 0);
            }
        }

        private void fillBed(Towns t, int i, int b) {
            int p = who[i];
            int h = t.houseAt[b];
            if ((inside[h] & (t.foes[p] | t.jars[p])) != 0 || isLeftAlone(t, i, h)) {
                return;
            }
            int worth = t.wantsOf(p, h);
            lies[i] = b;
            taken |= 1 << b;
            inside[h] |= 1 << p;
            soFar.add(0, 0, worth);
            fill(t, i + 1);
            soFar.add(0, 0, -worth);
            inside[h] &= ~(1 << p);
            taken &= ~(1 << b);
        }

        /** A child whom neither one in the HOUSE nor one still to be placed could mind. */
        private boolean isLeftAlone(Towns t, int i, int h) {
            if (t.kind[who[i]] != CHILD) {
                return false;
            }
            int minders = inside[h];
            for (int k = i + 1; k < size; k++) {
                minders |= 1 << who[k];
            }
            return (minders & t.elders[who[i]]) == 0;
        }

        private void take(Towns t) {
            if (!childrenMinded(t)) {
                return;
            }
            if (task == SEEK) {
                top.copyFrom(soFar);
                for (int i = 0; i < size; i++) {
                    row[who[i]] = lies[i] == CHURCH_PLACE ? CHURCH : lies[i];
                }
                return;
            }
            found++;
            for (int i = 0; i < size; i++) {
                tally[who[i] * PLACES + lies[i]]++;
            }
        }

        /** Only a whole row tells it: who minds a child may have a greater number. */
        private boolean childrenMinded(Towns t) {
            for (int i = 0; i < size; i++) {
                int p = who[i];
                if (t.kind[p] == CHILD && lies[i] != CHURCH_PLACE
                        && (inside[t.houseAt[lies[i]]] & t.elders[p]) == 0) {
                    return false;
                }
            }
            return true;
        }

        int foundWith(int p, int bed) {
            return tally[p * PLACES + (bed < 0 ? CHURCH_PLACE : bed)];
        }

        int housesInSome(Towns t, int p) {
            int bits = 0;
            for (int b = 0; b < t.bedCount; b++) {
                bits |= foundWith(p, b) > 0 ? 1 << t.houseAt[b] : 0;
            }
            return bits;
        }

        int houseInAll(Towns t, int p) {
            int houses = housesInSome(t, p);
            boolean sure = foundWith(p, CHURCH) == 0;
            for (int h = 0; sure && h < t.houses; h++) {
                if (houses == 1 << h) {
                    return h;
                }
            }
            return CHURCH;
        }

        int bedToAsk(Towns t, int side) {
            int most = -1;
            int first = CHURCH;
            for (int b = 0; b < t.bedCount; b++) {
                if (t.bedSide(b) == side) {
                    int with = foundWithAnybody(t, b);
                    int lesser = Math.min(with, found - with);
                    if (lesser > most) {
                        most = lesser;
                        first = b;
                    }
                }
            }
            return first;
        }

        private int foundWithAnybody(Towns t, int b) {
            int sum = 0;
            for (int p = 0; p < t.people; p++) {
                sum += foundWith(p, b);
            }
            return sum;
        }
    }

    /** By what ROWS are compared. */
    private static final class Score {
        int church = 0;
        int turns = 0;
        int worth = 0;

        void set(int itsChurch, int itsTurns, int itsWorth) {
            church = itsChurch;
            turns = itsTurns;
            worth = itsWorth;
        }

        void copyFrom(Score other) {
            church = other.church;
            turns = other.turns;
            worth = other.worth;
        }

        void add(int moreChurch, int moreTurns, int moreWorth) {
            church += moreChurch;
            turns += moreTurns;
            worth += moreWorth;
        }

        /** Whether it would be better with more added; a like one isn't, as the first counts. */
        boolean beatsWith(Score more, Score other) {
            if (church + more.church != other.church) {
                return church + more.church < other.church;
            }
            if (turns + more.turns != other.turns) {
                return turns + more.turns < other.turns;
            }
            return worth + more.worth > other.worth;
        }
    }

    /** BEST NIGHTS to come, worked out as far as was asked and kept while NOW stays. */
    private static final class Forecast {
        private final Finder finder = new Finder();
        private final State later = new State();
        final int[] church = new int[FAR + 1];
        private final int[] knows = new int[(FAR + 1) * PEOPLE];
        private int reached = NONE;
        int peaceAt = CHURCH;

        void forget() {
            reached = NONE;
            peaceAt = CHURCH;
        }

        void reach(Towns t, State now, int n) {
            if (reached < 0) {
                later.copyFrom(now);
                church[0] = 0;
                reached = 0;
                note(t);
            }
            while (reached < n && reached < FAR) {
                finder.bestNight(t, later);
                reached++;
                church[reached] = church[reached - 1] + inChurch(t);
                note(t);
            }
        }

        private void note(Towns t) {
            System.arraycopy(later.knows, 0, knows, reached * PEOPLE, PEOPLE);
            if (peaceAt < 0 && later.isPeace(t)) {
                peaceAt = reached;
            }
        }

        private int inChurch(Towns t) {
            int sum = 0;
            for (int p = 0; p < t.people; p++) {
                sum += later.bed[p] < 0 ? 1 : 0;
            }
            return sum;
        }

        int knownBy(int p, int n) {
            return knows[n * PEOPLE + p];
        }

        boolean hasLeaked(Towns t, int h, int n) {
            for (int p = 0; p < t.people; p++) {
                if (t.sideOf(p) != t.side[h] && (knownBy(p, n) >> h & 1) != 0) {
                    return true;
                }
            }
            return false;
        }
    }

    /** THE BRIDGE at six. */
    private static final class Bridge {
        static final int BY_NUMBERS = 0;
        static final int QUICK_FIRST = 1;
        static final int SLOW_FIRST = 2;

        private final int[] queue = new int[PEOPLE];
        private int walkers = 0;
        private final int[] minutes = new int[LANES];
        /** The ways that were walked on a lane, as bits; by an ORDER the latest alone. */
        private final int[] ways = new int[LANES];
        private int least = 0;
        private int bound = 0;

        int over = 0;
        int waited = 0;
        int last = CHURCH;

        private void lineUp(Towns t, State s, int order) {
            walkers = 0;
            for (int p = 0; p < t.people; p++) {
                if (s.bed[p] >= 0) {
                    int at = walkers;
                    while (at > 0 && goesAhead(t, p, queue[at - 1], order)) {
                        queue[at] = queue[at - 1];
                        at--;
                    }
                    queue[at] = p;
                    walkers++;
                }
            }
            Arrays.fill(minutes, 0);
            Arrays.fill(ways, 0);
        }

        private static boolean goesAhead(Towns t, int p, int q, int order) {
            if (order == QUICK_FIRST) {
                return t.walks[p] < t.walks[q];
            }
            return order == SLOW_FIRST && t.walks[p] > t.walks[q];
        }

        private static int lanesOf(Towns t) {
            return Math.max(1, Math.min(LANES, t.rules[WIDE]));
        }

        void walkBy(Towns t, State s, int order) {
            lineUp(t, s, order);
            over = 0;
            waited = 0;
            last = CHURCH;
            for (int i = 0; i < walkers; i++) {
                stepOn(t, queue[i]);
            }
        }

        private void stepOn(Towns t, int p) {
            int lane = soonestFree(t);
            int way = 1 << t.sideOf(p);
            int start = minutes[lane];
            if (ways[lane] != 0 && ways[lane] != way) {
                start += t.rules[TURN];
            }
            minutes[lane] = start + t.walks[p];
            ways[lane] = way;
            waited += start;
            if (minutes[lane] > over || minutes[lane] == over && p < last) {
                over = minutes[lane];
                last = p;
            }
        }

        private int soonestFree(Towns t) {
            int soonest = 0;
            for (int lane = 1; lane < lanesOf(t); lane++) {
                if (minutes[lane] < minutes[soonest]) {
                    soonest = lane;
                }
            }
            return soonest;
        }

        /** On each lane it is best that one way goes first, then the other: one turn at the most. */
        int leastMinutes(Towns t, State s) {
            lineUp(t, s, SLOW_FIRST);
            int sum = 0;
            for (int i = 0; i < walkers; i++) {
                sum += t.walks[queue[i]];
            }
            int lanes = lanesOf(t);
            bound = (sum + lanes - 1) / lanes;
            least = sum + t.rules[TURN] + 1;
            spread(t, 0);
            return least;
        }

        /** Tries the lanes for those from the i-th on; i is at most PEOPLE, so it goes no deeper than that. */
        private void spread(Towns t, int i) {
            if (i >= walkers || i >= PEOPLE) {
                least = longest(t);
                return;
            }
            int p = queue[i];
            for (int lane = 0; lane < lanesOf(t) && least > bound; lane++) {
                if (!isLikeEarlier(lane)) {
                    int before = ways[lane];
                    minutes[lane] += t.walks[p];
                    ways[lane] |= 1 << t.sideOf(p);
                    if (laneMinutes(t, lane) < least) {
                        spread(t, i + 1);
                    }
                    minutes[lane] -= t.walks[p];
                    ways[lane] = before;
                }
            }
        }

        private boolean isLikeEarlier(int lane) {
            for (int other = 0; other < lane; other++) {
                if (minutes[other] == minutes[lane] && ways[other] == ways[lane]) {
                    return true;
                }
            }
            return false;
        }

        private int laneMinutes(Towns t, int lane) {
            return minutes[lane] + (ways[lane] == 3 ? t.rules[TURN] : 0);
        }

        private int longest(Towns t) {
            int most = 0;
            for (int lane = 0; lane < lanesOf(t); lane++) {
                most = Math.max(most, laneMinutes(t, lane));
            }
            return most;
        }
    }

    /** KEEPING a HOUSE. */
    private static final class Bargain {
        private static final int BOTH = 0;
        private static final int ALONE = 1;
        private static final int OTHER = 2;
        private static final int NEITHER = 3;

        private static final int KEEPERS_RULES = 5;
        private static final int MOST_NIGHTS = 100;

        static boolean isRule(int rule) {
            return rule >= 0 && rule < KEEPERS_RULES;
        }

        static boolean isLength(int n) {
            return n >= 1 && n <= MOST_NIGHTS;
        }

        private static int told(Towns t, int h, int what) {
            return t.keeps[h * 4 + what];
        }

        static int restsOf(Towns t, int h) {
            boolean keepsOn = told(t, h, BOTH) >= told(t, h, OTHER);
            boolean joins = told(t, h, BOTH) > told(t, h, OTHER);
            boolean keepsAlone = told(t, h, ALONE) >= told(t, h, NEITHER);
            boolean begins = told(t, h, ALONE) > told(t, h, NEITHER);
            return (keepsOn ? 1 : 0) + (keepsAlone && !joins ? 2 : 0) + (begins ? 0 : 4);
        }

        static int holdsBy(Towns t, int h, boolean lower) {
            int both = told(t, h, BOTH);
            int other = told(t, h, OTHER);
            int neither = told(t, h, NEITHER);
            if (other <= both) {
                return lower ? 1 : 0;
            }
            if (both <= neither) {
                return CHURCH;
            }
            int shared = commonDivisor(other - both, other - neither);
            return (lower ? other - neither : other - both) / shared;
        }

        private static int commonDivisor(int a, int b) {
            for (int d = Math.min(a, b); d > 1; d--) {
                if (a % d == 0 && b % d == 0) {
                    return d;
                }
            }
            return 1;
        }

        static int played(Towns t, int h, int one, int other, int n) {
            int sum = 0;
            boolean oneKept = true;
            boolean otherKept = true;
            boolean oneEver = true;
            boolean otherEver = true;
            for (int night = 0; night < n; night++) {
                boolean oneKeeps = keepsBy(one, night, otherKept, otherEver);
                boolean otherKeeps = keepsBy(other, night, oneKept, oneEver);
                if (oneKeeps) {
                    sum += told(t, h, otherKeeps ? BOTH : ALONE);
                } else {
                    sum += told(t, h, otherKeeps ? OTHER : NEITHER);
                }
                oneKept = oneKeeps;
                otherKept = otherKeeps;
                oneEver = oneEver && oneKeeps;
                otherEver = otherEver && otherKeeps;
            }
            return sum;
        }

        /** Ahead of the first night the other one counts as one who has kept it. */
        private static boolean keepsBy(int rule, int night, boolean otherKept, boolean otherEver) {
            switch (rule) {
                case 0:
                    return true;
                case 1:
                    return false;
                case 2:
                    return otherKept;
                case 3:
                    return otherEver;
                default:
                    return night % 2 == 0;
            }
        }

        static int mostByRule(Towns t, int h, int n) {
            int most = -1;
            int first = 0;
            for (int rule = 0; rule < KEEPERS_RULES; rule++) {
                int sum = 0;
                for (int other = 0; other < KEEPERS_RULES; other++) {
                    sum += played(t, h, rule, other, n);
                }
                if (sum > most) {
                    most = sum;
                    first = rule;
                }
            }
            return first;
        }
    }
}
