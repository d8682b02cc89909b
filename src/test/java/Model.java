import java.util.ArrayDeque;
import java.util.ArrayList;
import java.util.Arrays;
import java.util.Deque;
import java.util.HashMap;
import java.util.HashSet;
import java.util.List;
import java.util.Map;
import java.util.NoSuchElementException;
import java.util.Set;

/**
 * The document once more, written as plainly as it is read and as slow as that is:
 * it lists all rows, all lanes, lives all nights anew, and keeps nothing worked out.
 * ModelTest holds OtherTown against it.
 */
public final class Model {
    static final class Fault extends RuntimeException {
        private static final long serialVersionUID = 1L;
        final int number;
        final int place;

        Fault(int number, int place) {
            this.number = number;
            this.place = place;
        }
    }

    record Token(char sort, String text, int place) {
    }

    static final class House {
        int side;
        int beds;
        int first;
        int[] keeps;
    }

    static final class Person {
        int kind;
        int home;
        int side;
        int walks;
        int kin;
        final Set<Integer> foes = new HashSet<>();
        final Map<Integer, Integer> wants = new HashMap<>();
        final Set<Integer> shoes = new HashSet<>();
    }

    static final class Told {
        int vow;
        int month;
        int wide;
        int turn;
        int ill;
        int clues;
        final List<House> houses = new ArrayList<>();
        final List<Person> people = new ArrayList<>();
        final List<Integer> bedHouse = new ArrayList<>();
        final Set<Integer> cold = new HashSet<>();
    }

    /** All nights as they were: bed of each (or -2). */
    static final class Now {
        final List<int[]> nights = new ArrayList<>();
        int[] bed;
        boolean[] ill;
        int[] knows;
        int seed;

        Now copy() {
            Now c = new Now();
            c.nights.addAll(nights);
            c.bed = bed.clone();
            c.ill = ill.clone();
            c.knows = knows.clone();
            c.seed = seed;
            return c;
        }
    }

    private final List<Integer> tape = new ArrayList<>();
    private Told told;
    private Now now;
    private final Deque<Now> acts = new ArrayDeque<>();
    private final List<Now> images = new ArrayList<>();
    private int trouble;
    private int fault;
    private int place;

    // ---- text

    public int feed(int a, int b, int c, int d, int e) {
        if (tape.size() > 880) {
            return -1;
        }
        for (int v : new int[] {a, b, c, d, e}) {
            tape.add(v >>> 24);
            tape.add(v >>> 16 & 255);
            tape.add(v >>> 8 & 255);
            tape.add(v & 255);
        }
        return tape.size();
    }

    private static List<Token> tokens(List<Integer> bytes) {
        StringBuilder b = new StringBuilder();
        for (int c : bytes) {
            b.append((char) c);
        }
        String s = b.toString();
        List<Token> list = new ArrayList<>();
        int i = 0;
        while (i < s.length()) {
            char c = s.charAt(i);
            int j = i + 1;
            if (c == ' ') {
                i++;
                continue;
            }
            if (c >= 'a' && c <= 'z') {
                while (j < s.length() && s.charAt(j) >= 'a' && s.charAt(j) <= 'z') {
                    j++;
                }
                list.add(new Token(j - i > 8 ? '?' : 'w', s.substring(i, j), i));
            } else if (c >= '0' && c <= '9') {
                while (j < s.length() && s.charAt(j) >= '0' && s.charAt(j) <= '9') {
                    j++;
                }
                list.add(new Token(j - i > 3 ? '?' : 'n', s.substring(i, j), i));
            } else {
                list.add(new Token(c == ';' ? ';' : '?', s.substring(i, j), i));
            }
            i = j;
        }
        list.add(new Token('$', "", s.length()));
        return list;
    }

    private static final List<String> SORTS =
            Arrays.asList("towns", "house", "person", "foes", "wants", "keeps", "ill", "shoe", "cold");

    private static final class Parser {
        final List<Token> tokens;
        int at = 0;
        final Told t = new Told();
        final List<String> houses = new ArrayList<>();
        final List<String> people = new ArrayList<>();
        final Map<String, Integer> lines = new HashMap<>();

        Parser(List<Token> tokens) {
            this.tokens = tokens;
        }

        Token take(char sort) {
            Token k = tokens.get(at);
            if (k.sort() != sort) {
                throw new Fault(1, k.place());
            }
            at++;
            return k;
        }

        void say(String w) {
            Token k = take('w');
            if (!k.text().equals(w)) {
                throw new Fault(1, k.place());
            }
        }

        int oneOf(String... ws) {
            Token k = take('w');
            int i = Arrays.asList(ws).indexOf(k.text());
            if (i < 0) {
                throw new Fault(1, k.place());
            }
            return i;
        }

        int number(int low, int high) {
            Token k = take('n');
            int v = Integer.parseInt(k.text());
            if (v < low || v > high) {
                throw new Fault(4, k.place());
            }
            return v;
        }

        Token name() {
            Token k = take('w');
            if (SORTS.contains(k.text())) {
                throw new Fault(1, k.place());
            }
            return k;
        }

        String fresh() {
            Token k = name();
            if (houses.contains(k.text()) || people.contains(k.text())) {
                throw new Fault(3, k.place());
            }
            return k.text();
        }

        int known(List<String> names) {
            Token k = name();
            if (!names.contains(k.text())) {
                throw new Fault(2, k.place());
            }
            return names.indexOf(k.text());
        }

        int lastPlace() {
            return tokens.get(at - 1).place();
        }

        Told parse() {
            line();
            while (tokens.get(at).sort() != '$') {
                take(';');
                line();
            }
            if (houses.isEmpty() || people.isEmpty()) {
                throw new Fault(6, tokens.get(at).place());
            }
            return t;
        }

        void line() {
            Token k = take('w');
            String sort = k.text();
            if (!SORTS.contains(sort)) {
                throw new Fault(1, k.place());
            }
            boolean begun = lines.containsKey("towns");
            if (begun && sort.equals("towns") || sort.equals("ill") && lines.containsKey("ill")) {
                throw new Fault(3, k.place());
            }
            String room = sort.equals("shoe") || sort.equals("cold") ? "clue" : sort;
            int most = switch (room) {
                case "house", "foes", "clue" -> 6;
                case "person" -> 10;
                case "wants" -> 12;
                default -> 999;
            };
            if (lines.getOrDefault(room, 0) >= most) {
                throw new Fault(5, k.place());
            }
            if (!begun && !sort.equals("towns")) {
                throw new Fault(6, k.place());
            }
            lines.merge(room, 1, Integer::sum);
            switch (sort) {
                case "towns" -> {
                    say("vow");
                    t.vow = number(1, 6);
                    say("month");
                    t.month = number(0, 30);
                    say("wide");
                    t.wide = number(1, 3);
                    say("turn");
                    t.turn = number(0, 9);
                }
                case "house" -> house();
                case "person" -> person();
                case "foes" -> {
                    int p = known(people);
                    int q = known(people);
                    if (p == q || t.people.get(p).foes.contains(q)) {
                        throw new Fault(3, lastPlace());
                    }
                    t.people.get(p).foes.add(q);
                    t.people.get(q).foes.add(p);
                }
                case "wants" -> {
                    int p = known(people);
                    int h = other(p, true);
                    t.people.get(p).wants.put(h, number(1, 9));
                }
                case "keeps" -> {
                    int h = known(houses);
                    if (t.houses.get(h).keeps != null) {
                        throw new Fault(3, lastPlace());
                    }
                    int[] k4 = new int[4];
                    for (int i = 0; i < 4; i++) {
                        k4[i] = number(0, 99);
                    }
                    t.houses.get(h).keeps = k4;
                }
                case "ill" -> t.ill = number(0, 100);
                case "shoe" -> {
                    int p = known(people);
                    t.people.get(p).shoes.add(other(p, false));
                    t.clues++;
                }
                default -> {
                    House h = t.houses.get(known(houses));
                    t.cold.add(h.first + number(0, h.beds - 1));
                    t.clues++;
                }
            }
        }

        int other(int p, boolean once) {
            int h = known(houses);
            if (once && t.people.get(p).wants.containsKey(h)) {
                throw new Fault(3, lastPlace());
            }
            if (t.houses.get(h).side == t.people.get(p).side) {
                throw new Fault(7, lastPlace());
            }
            return h;
        }

        void house() {
            String n = fresh();
            House h = new House();
            h.side = oneOf("left", "right");
            say("beds");
            h.beds = number(1, 3);
            int on = h.beds;
            for (House x : t.houses) {
                on += x.side == h.side ? x.beds : 0;
            }
            if (on > 6) {
                throw new Fault(5, lastPlace());
            }
            h.first = t.bedHouse.size();
            for (int i = 0; i < h.beds; i++) {
                t.bedHouse.add(houses.size());
            }
            houses.add(n);
            t.houses.add(h);
        }

        void person() {
            String n = fresh();
            Person p = new Person();
            p.kind = oneOf("plain", "snorer", "light", "child");
            say("of");
            p.home = known(houses);
            p.side = t.houses.get(p.home).side;
            if (t.people.stream().filter(x -> x.side == p.side).count() == 5) {
                throw new Fault(5, lastPlace());
            }
            say("walks");
            p.walks = number(1, 9);
            say("kin");
            p.kin = number(0, 9);
            people.add(n);
            t.people.add(p);
        }
    }

    public int towns(int n) {
        if (n < 0 || n > tape.size()) {
            return no(2);
        }
        List<Integer> bytes = new ArrayList<>(tape.subList(0, n));
        tape.clear();
        try {
            told = new Parser(tokens(bytes)).parse();
        } catch (Fault f) {
            fault = f.number;
            place = f.place;
            return no(4);
        }
        fault = 0;
        now = new Now();
        now.bed = new int[people()];
        Arrays.fill(now.bed, -2);
        now.ill = new boolean[people()];
        now.knows = new int[people()];
        for (int p = 0; p < people(); p++) {
            now.knows[p] = 1 << person(p).home;
        }
        acts.clear();
        images.clear();
        return yes(people());
    }

    public int fault() {
        return fault;
    }

    public int where() {
        return trouble == 4 ? place : -1;
    }

    // ---- small things

    private int no(int number) {
        trouble = number;
        return -1;
    }

    private int yes(int v) {
        trouble = 0;
        return v;
    }

    private int people() {
        return told == null ? 0 : told.people.size();
    }

    private Person person(int p) {
        return told.people.get(p);
    }

    private int beds() {
        return told == null ? 0 : told.bedHouse.size();
    }

    private boolean isP(int p) {
        return p >= 0 && p < people();
    }

    private boolean isH(int h) {
        return told != null && h >= 0 && h < told.houses.size();
    }

    private boolean isB(int b) {
        return b >= 0 && b < beds();
    }

    private boolean isS(int s) {
        return told != null && (s == 0 || s == 1);
    }

    private int bedSide(int b) {
        return told.houses.get(told.bedHouse.get(b)).side;
    }

    // ---- as told

    public int house(int h, int what) {
        if (!isH(h) || what < 0 || what > 3) {
            return no(1);
        }
        House x = told.houses.get(h);
        return yes(new int[] {x.side, x.beds, x.first, x.keeps == null ? 0 : 1}[what]);
    }

    public int person(int p, int what) {
        if (!isP(p) || what < 0 || what > 6) {
            return no(1);
        }
        Person x = person(p);
        int foes = x.foes.stream().mapToInt(q -> 1 << q).sum();
        return yes(new int[] {x.kind, x.home, x.side, x.walks, x.kin, foes, now.ill[p] ? 1 : 0}[what]);
    }

    public int houseOf(int bed) {
        return isB(bed) ? yes(told.bedHouse.get(bed)) : no(1);
    }

    private int want(int p, int h) {
        return person(p).wants.getOrDefault(h, 0);
    }

    public int wants(int p, int h) {
        return isP(p) && isH(h) ? yes(want(p, h)) : no(1);
    }

    // ---- tonight

    public int bed(int p) {
        return isP(p) ? yes(now.bed[p]) : no(1);
    }

    public int who(int bed) {
        if (!isB(bed)) {
            return no(1);
        }
        for (int p = 0; p < people(); p++) {
            if (now.bed[p] == bed) {
                return yes(p);
            }
        }
        return yes(-2);
    }

    private int ago(Now n, int p, int b) {
        for (int k = 1; k <= n.nights.size(); k++) {
            if (n.nights.get(n.nights.size() - k)[p] == b) {
                return k;
            }
        }
        return -2;
    }

    /** What is wrong with one if all lie as told; mask: whose presence counts. */
    private int wrongWith(Now n, int[] bed, int p, boolean[] there, boolean clues) {
        int b = bed[p];
        if (b == -2) {
            return 0;
        }
        Person x = person(p);
        if (bedSide(b) == x.side) {
            return 1;
        }
        List<Integer> others = new ArrayList<>();
        for (int q = 0; q < people(); q++) {
            if (q != p && there[q] && bed[q] != -2) {
                if (bed[q] == b && q < p) {
                    return 2;
                }
                if (told.bedHouse.get(bed[q]).equals(told.bedHouse.get(b))) {
                    others.add(q);
                }
            }
        }
        int when = ago(n, p, b);
        if (!clues && when != -2 && when <= told.month) {
            return 3;
        }
        boolean minded = false;
        boolean noise = false;
        for (int q : others) {
            if (x.foes.contains(q)) {
                return 4;
            }
            int k = person(q).kind;
            noise |= x.kind == 1 && k == 2 || x.kind == 2 && k == 1;
            minded |= k != 3 && person(q).kin == x.kin;
        }
        if (noise) {
            return 5;
        }
        if (x.kind == 3 && !minded) {
            return 6;
        }
        return !clues && n.ill[p] ? 7 : 0;
    }

    private boolean[] all() {
        boolean[] a = new boolean[people()];
        Arrays.fill(a, true);
        return a;
    }

    private int wrongNow(int p) {
        return wrongWith(now, now.bed, p, all(), false);
    }

    public int wrong(int p) {
        return isP(p) ? yes(wrongNow(p)) : no(1);
    }

    private int firstW() {
        for (int p = 0; p < people(); p++) {
            if (wrongNow(p) != 0) {
                return p;
            }
        }
        return -2;
    }

    public int firstWrong() {
        return told == null ? no(1) : yes(firstW());
    }

    public int wrongIn(int p, int bed) {
        if (!isP(p) || !isB(bed)) {
            return no(1);
        }
        int[] b = now.bed.clone();
        b[p] = bed;
        return yes(wrongWith(now, b, p, all(), false));
    }

    private int worthOf(int[] bed, int side) {
        int sum = 0;
        for (int p = 0; p < people(); p++) {
            if (person(p).side == side && bed[p] != -2) {
                sum += want(p, told.bedHouse.get(bed[p]));
            }
        }
        return sum;
    }

    public int worth(int side) {
        return isS(side) ? yes(worthOf(now.bed, side)) : no(1);
    }

    // ---- rows

    private List<Integer> of(int side) {
        List<Integer> list = new ArrayList<>();
        for (int p = 0; p < people(); p++) {
            if (person(p).side == side) {
                list.add(p);
            }
        }
        return list;
    }

    /** All rows in their order; beds of those of the other side are left at -2. */
    private List<int[]> allRows(Now n, int side, boolean clues) {
        List<int[]> good = new ArrayList<>();
        int[] bed = new int[people()];
        Arrays.fill(bed, -2);
        boolean[] there = new boolean[people()];
        of(side).forEach(p -> there[p] = true);
        walk(n, of(side), 0, bed, there, clues, good);
        return good;
    }

    private void walk(Now n, List<Integer> ps, int i, int[] bed, boolean[] there, boolean clues, List<int[]> good) {
        if (i == ps.size()) {
            for (int p : ps) {
                if (wrongWith(n, bed, p, there, clues) != 0 || clues && !fitting(p, bed[p])) {
                    return;
                }
            }
            good.add(bed.clone());
            return;
        }
        int p = ps.get(i);
        for (int b = 0; b <= beds(); b++) {
            bed[p] = b < beds() ? b : -2;
            if (b == beds() || bedSide(b) != person(p).side && free(bed, ps, i, b)) {
                walk(n, ps, i + 1, bed, there, clues, good);
            }
        }
        bed[p] = -2;
    }

    private static boolean free(int[] bed, List<Integer> ps, int i, int b) {
        for (int k = 0; k < i; k++) {
            if (bed[ps.get(k)] == b) {
                return false;
            }
        }
        return true;
    }

    private boolean fitting(int p, int b) {
        if (b != -2 && told.cold.contains(b)) {
            return false;
        }
        for (int h : person(p).shoes) {
            if (b == -2 || told.bedHouse.get(b) != h) {
                return false;
            }
        }
        return true;
    }

    private int turns(Now n, int p) {
        int sum = 0;
        for (int[] night : n.nights) {
            sum += night[p] == -2 ? 1 : 0;
        }
        return sum;
    }

    private int[] score(Now n, int[] row, int side) {
        int church = 0;
        int turns = 0;
        for (int p : of(side)) {
            if (row[p] == -2) {
                church++;
                turns += turns(n, p);
            }
        }
        return new int[] {church, turns, -worthOf(row, side)};
    }

    private int[] bestRow(Now n, int side) {
        int[] best = null;
        int[] bestScore = null;
        for (int[] row : allRows(n, side, false)) {
            int[] s = score(n, row, side);
            if (best == null || Arrays.compare(s, bestScore) < 0) {
                best = row;
                bestScore = s;
            }
        }
        return best;
    }

    public int rows(int side) {
        return isS(side) ? yes(allRows(now, side, false).size()) : no(1);
    }

    public int best(int p) {
        return isP(p) ? yes(bestRow(now, person(p).side)[p]) : no(1);
    }

    public int bestChurch(int side) {
        return isS(side) ? yes(score(now, bestRow(now, side), side)[0]) : no(1);
    }

    public int bestWorth(int side) {
        return isS(side) ? yes(worthOf(bestRow(now, side), side)) : no(1);
    }

    // ---- what was

    public int turnsOf(int p) {
        return isP(p) ? yes(turns(now, p)) : no(1);
    }

    public int ago(int p, int bed) {
        return isP(p) && isB(bed) ? yes(ago(now, p, bed)) : no(1);
    }

    private int sleptBits(Now n, int p) {
        int bits = 0;
        for (int[] night : n.nights) {
            bits |= night[p] == -2 ? 0 : 1 << told.bedHouse.get(night[p]);
        }
        return bits;
    }

    public int slept(int p) {
        return isP(p) ? yes(sleptBits(now, p)) : no(1);
    }

    public int knows(int p) {
        return isP(p) ? yes(now.knows[p]) : no(1);
    }

    private int leaks(Now n, int h) {
        int sum = 0;
        for (int p : of(1 - told.houses.get(h).side)) {
            sum += n.knows[p] >> h & 1;
        }
        return sum;
    }

    public int leaked(int h) {
        return isH(h) ? yes(leaks(now, h)) : no(1);
    }

    private boolean peaceful(Now n) {
        for (int p = 0; p < people(); p++) {
            int side = person(p).side;
            int there = (int) told.houses.stream().filter(h -> h.side != side).count();
            int slept = Integer.bitCount(sleptBits(n, p));
            if (slept < told.vow && slept < there) {
                return false;
            }
        }
        return true;
    }

    public int peace() {
        return told == null ? no(1) : yes(peaceful(now) ? 1 : 0);
    }

    public int guests(int h) {
        if (!isH(h)) {
            return no(1);
        }
        int bits = 0;
        for (int p = 0; p < people(); p++) {
            bits |= (sleptBits(now, p) >> h & 1) << p;
        }
        return yes(bits);
    }

    public int together(int p, int q) {
        if (!isP(p) || !isP(q) || p == q) {
            return no(1);
        }
        int sum = 0;
        for (int[] n : now.nights) {
            if (n[p] != -2 && n[q] != -2 && told.bedHouse.get(n[p]).equals(told.bedHouse.get(n[q]))) {
                sum++;
            }
        }
        return yes(sum);
    }

    public int fair(int side) {
        if (!isS(side)) {
            return no(1);
        }
        int most = of(side).stream().mapToInt(p -> turns(now, p)).max().orElse(0);
        int least = of(side).stream().mapToInt(p -> turns(now, p)).min().orElse(0);
        return yes(most - least);
    }

    public int swap(int side) {
        if (!isS(side)) {
            return no(1);
        }
        int answer = -2;
        int gain = 0;
        for (int p : of(side)) {
            for (int q : of(side)) {
                if (p < q && now.bed[p] != -2 && now.bed[q] != -2) {
                    int[] b = now.bed.clone();
                    b[p] = now.bed[q];
                    b[q] = now.bed[p];
                    boolean good = true;
                    for (int x : of(side)) {
                        good &= wrongWith(now, b, x, all(), false) == 0;
                    }
                    int more = worthOf(b, side) - worthOf(now.bed, side);
                    if (good && more > gain) {
                        gain = more;
                        answer = 100 * p + q;
                    }
                }
            }
        }
        return yes(answer);
    }

    // ---- nights

    private void sleep(Now n) {
        n.nights.add(n.bed.clone());
        for (int p = 0; p < people(); p++) {
            n.knows[p] |= n.bed[p] == -2 ? 0 : 1 << told.bedHouse.get(n.bed[p]);
        }
        int[] before = n.knows.clone();
        for (int p = 0; p < people(); p++) {
            for (int q = 0; q < people(); q++) {
                if (n.bed[p] != -2 && n.bed[q] != -2 && person(p).kin == person(q).kin
                        && told.bedHouse.get(n.bed[p]).equals(told.bedHouse.get(n.bed[q]))) {
                    n.knows[p] |= before[q];
                }
            }
        }
        before = n.knows.clone();
        for (int p = 0; p < people(); p++) {
            for (int q = 0; q < people(); q++) {
                n.knows[p] |= person(p).home == person(q).home ? before[q] : 0;
            }
        }
        for (int p = 0; p < people(); p++) {
            n.seed = (int) ((75L * n.seed + 74) % 65537);
            n.ill[p] = n.seed % 100 < told.ill;
        }
    }

    private int bestNight(Now n) {
        int[] left = bestRow(n, 0);
        int[] right = bestRow(n, 1);
        int church = 0;
        for (int p = 0; p < people(); p++) {
            n.bed[p] = person(p).side == 0 ? left[p] : right[p];
            church += n.bed[p] == -2 ? 1 : 0;
        }
        sleep(n);
        return church;
    }

    public int peaceIn() {
        if (told == null) {
            return no(1);
        }
        Now n = now.copy();
        for (int k = 0; k <= 40; k++) {
            if (peaceful(n)) {
                return yes(k);
            }
            bestNight(n);
        }
        return yes(-2);
    }

    public int churchIn(int n) {
        if (told == null) {
            return no(1);
        }
        if (n < 0 || n > 40) {
            return no(2);
        }
        Now c = now.copy();
        int sum = 0;
        for (int k = 0; k < n; k++) {
            sum += bestNight(c);
        }
        return yes(sum);
    }

    public int knowsIn(int p, int n) {
        if (!isP(p)) {
            return no(1);
        }
        if (n < 0 || n > 40) {
            return no(2);
        }
        Now c = now.copy();
        for (int k = 0; k < n; k++) {
            bestNight(c);
        }
        return yes(c.knows[p]);
    }

    public int leaksIn(int h) {
        if (!isH(h)) {
            return no(1);
        }
        Now c = now.copy();
        for (int k = 0; k <= 40; k++) {
            if (leaks(c, h) > 0) {
                return yes(k);
            }
            bestNight(c);
        }
        return yes(-2);
    }

    // ---- the bridge

    private List<Integer> walkers() {
        List<Integer> list = new ArrayList<>();
        for (int p = 0; p < people(); p++) {
            if (now.bed[p] != -2) {
                list.add(p);
            }
        }
        return list;
    }

    public int crossed() {
        if (told == null) {
            return no(1);
        }
        List<Integer> ps = walkers();
        int least = Integer.MAX_VALUE;
        int ways = 1;
        for (int i = 0; i < ps.size(); i++) {
            ways *= told.wide;
        }
        for (int code = 0; code < ways; code++) {
            int[] sum = new int[3];
            int[] dirs = new int[3];
            int c = code;
            for (int p : ps) {
                sum[c % told.wide] += person(p).walks;
                dirs[c % told.wide] |= 1 << person(p).side;
                c /= told.wide;
            }
            int most = 0;
            for (int lane = 0; lane < 3; lane++) {
                most = Math.max(most, sum[lane] + (dirs[lane] == 3 ? told.turn : 0));
            }
            least = Math.min(least, most);
        }
        return yes(least);
    }

    private int[] walkBy(int order) {
        List<Integer> ps = walkers();
        ps.sort((p, q) -> order == 0 ? p - q
                : order == 1 ? 100 * (person(p).walks - person(q).walks) + p - q
                : 100 * (person(q).walks - person(p).walks) + p - q);
        int[] free = new int[told.wide];
        int[] way = new int[told.wide];
        Arrays.fill(way, -1);
        int waits = 0;
        int last = -2;
        int over = 0;
        for (int p : ps) {
            int lane = 0;
            for (int k = 1; k < told.wide; k++) {
                lane = free[k] < free[lane] ? k : lane;
            }
            int start = free[lane];
            if (way[lane] == 1 - person(p).side) {
                start += told.turn;
            }
            waits += start;
            way[lane] = person(p).side;
            free[lane] = start + person(p).walks;
            if (free[lane] > over || free[lane] == over && p < last) {
                over = free[lane];
                last = p;
            }
        }
        return new int[] {over, waits, last};
    }

    public int bridge(int order, boolean waits) {
        return told == null || order < 0 || order > 2 ? no(1) : yes(walkBy(order)[waits ? 1 : 0]);
    }

    public int lastOver(int order) {
        return told == null || order < 0 || order > 2 ? no(1) : yes(walkBy(order)[2]);
    }

    // ---- bargains

    private int keepsTrouble(int h) {
        return !isH(h) ? 1 : told.houses.get(h).keeps == null ? 6 : 0;
    }

    private static int pay(int[] k, boolean he, boolean other) {
        return he ? (other ? k[0] : k[1]) : other ? k[2] : k[3];
    }

    public int rests(int h) {
        if (keepsTrouble(h) != 0) {
            return no(keepsTrouble(h));
        }
        int[] k = told.houses.get(h).keeps;
        int sum = 0;
        boolean[][] cases = {{true, true}, {true, false}, {false, false}};
        for (int i = 0; i < 3; i++) {
            boolean a = cases[i][0];
            boolean b = cases[i][1];
            if (pay(k, !a, b) <= pay(k, a, b) && pay(k, !b, a) <= pay(k, b, a)) {
                sum += 1 << i;
            }
        }
        return yes(sum);
    }

    public int holds(int h, boolean lower) {
        if (keepsTrouble(h) != 0) {
            return no(keepsTrouble(h));
        }
        int[] k = told.houses.get(h).keeps;
        if (k[2] <= k[0]) {
            return yes(lower ? 1 : 0);
        }
        if (k[0] <= k[3]) {
            return yes(-2);
        }
        int up = k[2] - k[0];
        int low = k[2] - k[3];
        int g = java.math.BigInteger.valueOf(up).gcd(java.math.BigInteger.valueOf(low)).intValue();
        return yes((lower ? low : up) / g);
    }

    private static boolean keeps(int rule, List<Boolean> other) {
        return switch (rule) {
            case 0 -> true;
            case 1 -> false;
            case 2 -> other.isEmpty() || other.get(other.size() - 1);
            case 3 -> !other.contains(false);
            default -> other.size() % 2 == 0;
        };
    }

    private int playOut(int h, int one, int other, int n) {
        List<Boolean> a = new ArrayList<>();
        List<Boolean> b = new ArrayList<>();
        int sum = 0;
        for (int i = 0; i < n; i++) {
            boolean x = keeps(one, b);
            boolean y = keeps(other, a);
            a.add(x);
            b.add(y);
            sum += pay(told.houses.get(h).keeps, x, y);
        }
        return sum;
    }

    public int plays(int h, int one, int other, int n) {
        if (!isH(h) || one < 0 || one > 4 || other < 0 || other > 4) {
            return no(1);
        }
        if (keepsTrouble(h) != 0) {
            return no(6);
        }
        return n < 1 || n > 100 ? no(2) : yes(playOut(h, one, other, n));
    }

    public int bestRule(int h, int n) {
        if (keepsTrouble(h) != 0) {
            return no(keepsTrouble(h));
        }
        if (n < 1 || n > 100) {
            return no(2);
        }
        int[] sums = new int[5];
        int best = 0;
        for (int r = 0; r < 5; r++) {
            for (int o = 0; o < 5; o++) {
                sums[r] += playOut(h, r, o, n);
            }
            best = sums[r] > sums[best] ? r : best;
        }
        return yes(best);
    }

    // ---- clues

    public int fits(int side) {
        return isS(side) ? yes(allRows(now, side, true).size()) : no(1);
    }

    public int could(int p) {
        if (!isP(p)) {
            return no(1);
        }
        int bits = 0;
        for (int[] row : allRows(now, person(p).side, true)) {
            bits |= row[p] == -2 ? 0 : 1 << told.bedHouse.get(row[p]);
        }
        return yes(bits);
    }

    public int surely(int p) {
        if (!isP(p)) {
            return no(1);
        }
        Set<Integer> seen = new HashSet<>();
        for (int[] row : allRows(now, person(p).side, true)) {
            seen.add(row[p] == -2 ? -2 : told.bedHouse.get(row[p]));
        }
        return yes(seen.size() == 1 ? seen.iterator().next() : -2);
    }

    public int fitsWith(int p, int bed) {
        if (!isP(p) || bed != -2 && !isB(bed)) {
            return no(1);
        }
        return yes((int) allRows(now, person(p).side, true).stream().filter(r -> r[p] == bed).count());
    }

    public int ask(int side) {
        if (!isS(side)) {
            return no(1);
        }
        List<int[]> rows = allRows(now, side, true);
        int answer = -1;
        int most = -1;
        for (int b = 0; b < beds(); b++) {
            if (bedSide(b) != side) {
                int with = 0;
                for (int[] r : rows) {
                    for (int x : r) {
                        with += x == b ? 1 : 0;
                    }
                }
                int lesser = Math.min(with, rows.size() - with);
                if (lesser > most) {
                    most = lesser;
                    answer = b;
                }
            }
        }
        return answer < 0 ? no(6) : yes(answer);
    }

    // ---- acts

    private void keep() {
        acts.addLast(now.copy());
        if (acts.size() > 12) {
            acts.removeFirst();
        }
    }

    public boolean lays(int p, int bed) {
        if (!isP(p) || bed != -2 && !isB(bed)) {
            return no(1) == 0;
        }
        if (now.bed[p] == bed) {
            return no(5) == 0;
        }
        keep();
        now.bed[p] = bed;
        return yes(0) == 0;
    }

    public int laysBest(int side) {
        if (!isS(side)) {
            return no(1);
        }
        keep();
        int[] row = bestRow(now, side);
        int church = 0;
        for (int p : of(side)) {
            now.bed[p] = row[p];
            church += row[p] == -2 ? 1 : 0;
        }
        return yes(church);
    }

    public int night() {
        if (told == null) {
            return no(1);
        }
        if (firstW() != -2) {
            return no(5);
        }
        keep();
        sleep(now);
        return yes(now.nights.size());
    }

    public int nights(int n) {
        if (told == null) {
            return no(1);
        }
        if (n < 1 || n > 40) {
            return no(2);
        }
        keep();
        for (int i = 0; i < n; i++) {
            bestNight(now);
        }
        return yes(now.nights.size());
    }

    public boolean seed(int v) {
        if (told == null) {
            return no(1) == 0;
        }
        if (v < 0 || v > 65536) {
            return no(2) == 0;
        }
        now.seed = v;
        return yes(0) == 0;
    }

    public boolean undo() {
        if (acts.isEmpty()) {
            return no(6) == 0;
        }
        now = acts.removeLast();
        return yes(0) == 0;
    }

    public int image() {
        if (told == null) {
            return no(1);
        }
        if (images.size() == 3) {
            return no(3);
        }
        images.add(now.copy());
        return yes(images.size() - 1);
    }

    public boolean back(int image) {
        if (image < 0 || image >= images.size()) {
            return no(1) == 0;
        }
        now = images.get(image).copy();
        acts.clear();
        return yes(0) == 0;
    }

    // ---- what is told

    public int led(int i) {
        List<Integer> list = new ArrayList<>();
        for (int p = 0; p < people(); p++) {
            if (now.bed[p] == -2) {
                list.add(p);
            }
        }
        if (i < 0 || i >= list.size()) {
            throw new NoSuchElementException();
        }
        return list.get(i);
    }

    public int size(int what) {
        if (what < 0 || what > 13) {
            return -1;
        }
        if (what == 13) {
            return tape.size();
        }
        if (told == null) {
            return 0;
        }
        return new int[] {told.vow, told.month, told.wide, told.turn, told.houses.size(), beds(), people(), told.ill,
            told.clues, now.nights.size(), now.seed, acts.size(), images.size()}[what];
    }

    public int trouble() {
        return trouble;
    }
}
