import java.util.ArrayList;
import java.util.List;
import java.util.Random;

/** Texts of towns by a fixed random source: good ones, and good ones that were spoilt. */
final class Texts {
    private static final String[] KINDS = {"plain", "snorer", "light", "child"};
    private static final String[] WORDS = {"towns", "house", "person", "foes", "wants", "keeps", "ill", "shoe", "cold",
        "vow", "month", "wide", "turn", "left", "right", "beds", "plain", "of", "walks", "kin", "ab", "h", "p"};

    private final Random random;
    private final List<String> lines = new ArrayList<>();
    private final List<String> houses = new ArrayList<>();
    private final List<Integer> houseSides = new ArrayList<>();
    private final List<Integer> houseBeds = new ArrayList<>();
    private final List<String> people = new ArrayList<>();
    private final List<Integer> sides = new ArrayList<>();
    private final int[] bedsOn = new int[2];
    private final int[] peopleOn = new int[2];

    private Texts(Random random) {
        this.random = random;
    }

    private int below(int n) {
        return random.nextInt(n);
    }

    private int pick(int... choices) {
        return choices[below(choices.length)];
    }

    /** big: 0 a few people, 1 as it comes, 2 as many as there is room for. */
    static String good(Random random, int big) {
        while (true) {
            Texts t = new Texts(random);
            t.tellAll(big);
            String text = t.join();
            if (text.length() <= 900 && !t.people.isEmpty()) {
                return text;
            }
        }
    }

    private void tellAll(int big) {
        lines.add("towns vow " + (1 + below(pick(2, 3, 6))) + " month " + below(pick(1, 3, 8, 31)) + " wide "
                + (1 + below(3)) + " turn " + below(10));
        int wantHouses = big == 2 ? 6 : 1 + below(big == 0 ? 3 : 6);
        int wantPeople = big == 2 ? 10 : 1 + below(big == 0 ? 4 : 10);
        int lean = below(8);
        for (int i = 0; i < wantHouses; i++) {
            addHouse(big, lean);
        }
        for (int i = 0; i < wantPeople; i++) {
            addPerson();
        }
        for (int i = below(pick(1, 3, 7)); i > 0; i--) {
            addFoes();
        }
        for (int i = below(pick(1, 5, 13)); i > 0; i--) {
            addWants();
        }
        for (int i = 0; i < houses.size(); i++) {
            if (below(2) == 0) {
                int most = pick(3, 10, 100);
                lines.add("keeps " + houses.get(i) + " " + below(most) + " " + below(most) + " " + below(most) + " "
                        + below(most));
            }
        }
        if (below(3) > 0) {
            lines.add("ill " + pick(0, 5, 20, 50, 100, below(101)));
        }
        for (int i = below(pick(1, 2, 4, 7)); i > 0; i--) {
            addClue();
        }
    }

    private void addHouse(int big, int lean) {
        int side = lean == 0 ? 0 : lean == 1 ? 1 : big == 2 ? houses.size() % 2 : below(2);
        int beds = 1 + below(3);
        if (bedsOn[side] + beds <= 6) {
            bedsOn[side] += beds;
            String name = "abcdefgh".charAt(houses.size()) + (below(20) == 0 ? "leftbed" : "");
            lines.add("house " + name + " " + (side == 0 ? "left" : "right") + " beds " + beds);
            houses.add(name);
            houseSides.add(side);
            houseBeds.add(beds);
        }
    }

    private void addPerson() {
        if (houses.isEmpty()) {
            return;
        }
        int home = below(houses.size());
        int side = houseSides.get(home);
        if (peopleOn[side] < 5) {
            peopleOn[side]++;
            String name = String.valueOf("klmnopqrst".charAt(people.size()));
            lines.add("person " + name + " " + KINDS[below(pick(1, 3, 4))] + " of " + houses.get(home) + " walks "
                    + (1 + below(9)) + " kin " + below(pick(1, 2, 4, 10)));
            people.add(name);
            sides.add(side);
        }
    }

    private void addFoes() {
        int p = below(Math.max(1, people.size()));
        int q = below(Math.max(1, people.size()));
        if (p != q && p < people.size() && !lines.contains("foes " + people.get(p) + " " + people.get(q))
                && !lines.contains("foes " + people.get(q) + " " + people.get(p))) {
            lines.add("foes " + people.get(p) + " " + people.get(q));
        }
    }

    private void addWants() {
        if (people.isEmpty()) {
            return;
        }
        int p = below(people.size());
        int h = below(houses.size());
        String start = "wants " + people.get(p) + " " + houses.get(h) + " ";
        if (!sides.get(p).equals(houseSides.get(h)) && lines.stream().noneMatch(l -> l.startsWith(start))) {
            lines.add(start + (1 + below(9)));
        }
    }

    private void addClue() {
        if (people.isEmpty()) {
            return;
        }
        int p = below(people.size());
        int h = below(houses.size());
        if (below(2) == 0) {
            lines.add("cold " + houses.get(h) + " " + below(houseBeds.get(h)));
        } else if (!sides.get(p).equals(houseSides.get(h))) {
            lines.add("shoe " + people.get(p) + " " + houses.get(h));
        }
    }

    private String join() {
        StringBuilder b = new StringBuilder();
        boolean loose = below(4) == 0;
        for (String line : lines) {
            b.append(b.length() > 0 ? loose && below(2) == 0 ? " ; " : ";" : "");
            b.append(loose ? line.replace(" ", below(3) == 0 ? "  " : " ") : line);
        }
        return b.toString();
    }

    static String spoil(Random random, String text) {
        StringBuilder b = new StringBuilder(text);
        for (int times = 1 + random.nextInt(2); times > 0; times--) {
            spoilOnce(random, b);
        }
        return b.length() > 900 ? b.substring(0, 900) : b.toString();
    }

    private static void spoilOnce(Random random, StringBuilder b) {
        int at = random.nextInt(Math.max(1, b.length()));
        String[] lines = b.toString().split(";", -1);
        String line = lines[random.nextInt(lines.length)];
        String other = lines[random.nextInt(lines.length)];
        switch (random.nextInt(10)) {
            case 0 -> b.setLength(at);
            case 1 -> b.deleteCharAt(Math.min(at, b.length() - 1));
            case 2 -> b.insert(at, "az09; .A\u00ff".charAt(random.nextInt(9)));
            case 3 -> b.append(';').append(line);
            case 4 -> b.append(';').append(line.replaceFirst("[0-9]+", String.valueOf(random.nextInt(130))));
            case 5 -> swapWord(random, b, WORDS[random.nextInt(WORDS.length)]);
            case 6 -> swapWord(random, b, "abcdefklmnopqrst".charAt(random.nextInt(16)) + "");
            case 7 -> swapWord(random, b, String.valueOf(random.nextInt(12)));
            case 8 -> b.append(';').append(other.replaceFirst(" [a-z]+", " z" + (char) ('a' + random.nextInt(26))));
            default -> b.insert(0, line + ";");
        }
        if (b.length() == 0) {
            b.append(' ');
        }
    }

    private static void swapWord(Random random, StringBuilder b, String word) {
        String[] words = b.toString().split(" ", -1);
        words[random.nextInt(words.length)] = word;
        b.setLength(0);
        b.append(String.join(" ", words));
    }
}
