import java.util.ArrayList;
import java.util.Collections;
import java.util.Comparator;
import java.util.HashMap;
import java.util.HashSet;
import java.util.List;
import java.util.Map;
import java.util.NoSuchElementException;
import java.util.Set;
import java.util.TreeMap;

/**
 * Long runs of calls on SuggestDesk beside a model that follows the document's words with
 * texts and maps, slowly and without any cleverness. The runs are the same each time.
 */
public final class ModelTests extends Checks {
    private static final int RUNS = 1500;
    /** What an object answers behind so many calls is free, so none is asked for more. */
    private static final int CALLS = 512;
    /** The calls that the runs make more often, in turn, so that each limit is reached. */
    private static final int[] FAVOURED = {0, 5, 6, 11, 12, 14, 16, 19};

    private static int wrong = 0;
    private static long seed = 20261115;

    public static void main(String[] args) {
        for (int run = 0; run < RUNS && wrong == 0; run++) {
            play(run);
        }
        System.out.println(RUNS + " runs, " + wrong + " wrong");
        if (wrong != 0) {
            System.exit(1);
        }
    }

    private static void play(int run) {
        SuggestDesk desk = new SuggestDesk();
        Model model = new Model();
        List<String> told = new ArrayList<>();
        int letters = 1 + pick(run % 3 == 0 ? 10 : 3);
        int longest = 1 + pick(8);
        int weights = run % 2 == 0 ? 4 : 10000;
        while (told.size() < CALLS && wrong == 0) {
            step(desk, model, told, new int[] {letters, longest, weights, run});
        }
    }

    private static void step(SuggestDesk desk, Model model, List<String> told, int[] kind) {
        long a = someNumber(kind[0], kind[1]);
        long b = someNumber(kind[0], kind[1]);
        int dictionary = someDictionary(model);
        int small = pick(30) == 0 ? pick(100) - 50 : pick(5);
        int weight = pick(30) == 0 ? 9990 + pick(20) : pick(40) == 0 ? -1 : pick(kind[2]);
        int n = pick(3) == 0 ? pick(28) - 1 : 24;
        switch (pick(3) == 0 ? FAVOURED[kind[3] % FAVOURED.length] : pick(20)) {
            case 0, 1, 2, 3 -> both(told, "word " + a + " " + weight,
                () -> desk.word(a, weight), () -> model.word(a, weight));
            case 4 -> {
                if (pick(3) == 0) {
                    both(told, "drop " + a, () -> desk.drop(a), () -> model.drop(a));
                }
            }
            case 5 -> both(told, "build", desk::build, model::build);
            case 6 -> both(told, "hold", desk::hold, model::hold);
            case 7 -> both(told, "release " + dictionary,
                () -> desk.release(dictionary), () -> model.release(dictionary));
            case 8, 9 -> both(told, "look " + dictionary + " " + small,
                () -> desk.look(dictionary, small), () -> model.look(dictionary, small));
            case 10 -> both(told, "cost " + dictionary + " " + a,
                () -> desk.cost(dictionary, a), () -> model.cost(dictionary, a));
            case 11 -> {
                long begin = pick(3) == 0 ? 0 : someNumber(kind[0], 1 + pick(kind[1]));
                both(told, "complete " + dictionary + " " + begin + " " + n,
                    () -> desk.complete(dictionary, begin, n), () -> model.complete(dictionary, begin, n));
                allGiven(desk, model, told);
            }
            case 12 -> {
                int far = pick(10) == 0 ? small : pick(3);
                both(told, "near " + dictionary + " " + a + " " + far,
                    () -> desk.near(dictionary, a, far), () -> model.near(dictionary, a, far));
                allGiven(desk, model, told);
            }
            case 13 -> both(told, "distance " + a + " " + b, () -> desk.distance(a, b), () -> model.distance(a, b));
            case 14, 15 -> both(told, "learn " + a + " " + b, () -> desk.learn(a, b), () -> model.learn(a, b));
            case 16, 17, 18 -> both(told, "say " + a, () -> desk.say(a), () -> model.say(a));
            default -> {
                both(told, "correct " + dictionary, () -> desk.correct(dictionary), () -> model.correct(dictionary));
                allCorrected(desk, model, told);
            }
        }
    }

    private static void allGiven(SuggestDesk desk, Model model, List<String> told) {
        for (int k = firstAsked(); k <= model.given.size(); k++) {
            int at = k;
            both(told, "given " + at, () -> desk.given(at), () -> model.wordAt(model.given, at));
        }
    }

    private static void allCorrected(SuggestDesk desk, Model model, List<String> told) {
        for (int k = firstAsked(); k <= model.corrected.size(); k++) {
            int at = k;
            both(told, "corrected " + at, () -> desk.corrected(at), () -> model.wordAt(model.corrected, at));
        }
    }

    /** Now and then the one before the first is asked for too. */
    private static int firstAsked() {
        return pick(8) == 0 ? -1 : 0;
    }

    private static void both(List<String> told, String call, Call desk, Call model) {
        if (told.size() >= CALLS) {
            return;
        }
        Object got = outcome(desk);
        Object want = outcome(model);
        told.add(call + " = " + want);
        if (!got.equals(want)) {
            wrong++;
            System.out.println(String.join("\n", told));
            System.out.println("the last call answered " + got + ", due is " + want);
        }
    }

    /** Most often one that is there, else one that went or was never made. */
    private static int someDictionary(Model model) {
        List<Integer> there = new ArrayList<>(model.dictionaries.keySet());
        if (there.isEmpty() || pick(6) == 0) {
            return pick(5) == 0 ? pick(9) - 4 : Math.max(0, model.made - pick(5));
        }
        return there.get(pick(there.size()));
    }

    private static long someNumber(int letters, int longest) {
        if (pick(60) == 0) {
            return pick(2) == 0 ? pick(70000) : seed;
        }
        long number = 0;
        int length = 1 + pick(longest);
        for (int i = 0; i < length; i++) {
            number = number << 8 | ('a' + pick(letters));
        }
        return number;
    }

    /** The next of a fixed row of numbers, from 0 to below a bound. */
    private static int pick(int bound) {
        seed = seed * 6364136223846793005L + 1442695040888963407L;
        return (int) ((seed >>> 33) % bound);
    }

    private static final class Held {
        final TreeMap<String, Integer> costs;
        int readers = 0;

        Held(TreeMap<String, Integer> costs) {
            this.costs = costs;
        }
    }

    /** Methods bear the names of the face. */
    private static final class Model {
        final TreeMap<String, Integer> draft = new TreeMap<>();
        final Map<Integer, Held> dictionaries = new TreeMap<>();
        final Map<String, Integer> pairs = new HashMap<>();
        final List<String> phrase = new ArrayList<>();
        List<String> given = new ArrayList<>();
        List<String> corrected = new ArrayList<>();
        int made = 0;

        Object word(long number, int weight) {
            String word = asked(number);
            if (weight < 0 || weight > 9999) {
                throw new IllegalArgumentException();
            }
            if (!draft.containsKey(word) && draft.size() == 24) {
                throw new IllegalStateException();
            }
            draft.put(word, 9999 - weight);
            return draft.size();
        }

        Object drop(long number) {
            return draft.remove(letters(number)) != null;
        }

        Object build() {
            int staying = 0;
            for (Held held : dictionaries.values()) {
                staying += held.readers > 0 ? 1 : 0;
            }
            if (draft.isEmpty() || staying == 3) {
                throw new IllegalStateException();
            }
            made++;
            dictionaries.values().removeIf(held -> held.readers == 0);
            dictionaries.put(made, new Held(new TreeMap<>(draft)));
            return made;
        }

        Object hold() {
            if (made == 0 || dictionaries.get(made).readers == 9) {
                throw new IllegalStateException();
            }
            dictionaries.get(made).readers++;
            return made;
        }

        Object release(int number) {
            Held held = dictionaries.get(number);
            if (held == null || held.readers == 0) {
                throw new IllegalArgumentException();
            }
            held.readers--;
            if (held.readers == 0 && number != made) {
                dictionaries.remove(number);
            }
            return dictionaries.containsKey(number);
        }

        Object look(int number, int what) {
            Held held = dictionary(number);
            if (what < 0 || what > 3) {
                throw new IllegalArgumentException();
            }
            if (what == 0) {
                return held.costs.size();
            }
            if (what == 3) {
                return held.readers;
            }
            Set<Map<String, Integer>> states = states(held.costs);
            if (what == 1) {
                return states.size();
            }
            int arcs = 0;
            for (Map<String, Integer> state : states) {
                Set<Character> firsts = new HashSet<>();
                for (String rest : state.keySet()) {
                    if (!rest.isEmpty()) {
                        firsts.add(rest.charAt(0));
                    }
                }
                arcs += firsts.size();
            }
            return arcs;
        }

        private static Set<Map<String, Integer>> states(Map<String, Integer> costs) {
            Set<String> beginnings = new HashSet<>();
            for (String word : costs.keySet()) {
                for (int length = 0; length <= word.length(); length++) {
                    beginnings.add(word.substring(0, length));
                }
            }
            Set<Map<String, Integer>> states = new HashSet<>();
            for (String beginning : beginnings) {
                Map<String, Integer> behind = new TreeMap<>();
                costs.forEach((word, cost) -> {
                    if (word.startsWith(beginning)) {
                        behind.put(word.substring(beginning.length()), cost);
                    }
                });
                int lowest = Collections.min(behind.values());
                behind.replaceAll((rest, cost) -> cost - lowest);
                states.add(behind);
            }
            return states;
        }

        Object cost(int number, long word) {
            Integer cost = dictionary(number).costs.get(letters(word));
            if (cost == null) {
                throw new NoSuchElementException();
            }
            return cost;
        }

        Object complete(int number, long begin, int n) {
            given = new ArrayList<>();
            String beginning = begin == 0 ? "" : asked(begin);
            if (n < 0 || n > 24) {
                throw new IllegalArgumentException();
            }
            Map<String, Integer> costs = dictionary(number).costs;
            List<String> found = new ArrayList<>(costs.keySet());
            found.removeIf(word -> !word.startsWith(beginning));
            found.sort(Comparator.<String>comparingInt(costs::get).thenComparing(Comparator.naturalOrder()));
            given = found.subList(0, Math.min(n, found.size()));
            return given.size();
        }

        Object near(int number, long asked, int distance) {
            given = new ArrayList<>();
            String word = asked(asked);
            if (distance < 0 || distance > 2) {
                throw new IllegalArgumentException();
            }
            Map<String, Integer> costs = dictionary(number).costs;
            List<String> found = new ArrayList<>(costs.keySet());
            found.removeIf(other -> changes(word, other) > distance);
            found.sort(Comparator.<String>comparingInt(other -> changes(word, other))
                .thenComparingInt(costs::get).thenComparing(Comparator.naturalOrder()));
            given = found;
            return given.size();
        }

        Object distance(long a, long b) {
            return changes(asked(a), asked(b));
        }

        private static int changes(String a, String b) {
            int[][] d = new int[a.length() + 1][b.length() + 1];
            for (int i = 0; i <= a.length(); i++) {
                for (int j = 0; j <= b.length(); j++) {
                    if (i == 0 || j == 0) {
                        d[i][j] = i + j;
                        continue;
                    }
                    int other = a.charAt(i - 1) == b.charAt(j - 1) ? 0 : 1;
                    d[i][j] = Math.min(d[i - 1][j - 1] + other, Math.min(d[i - 1][j], d[i][j - 1]) + 1);
                    if (i > 1 && j > 1 && a.charAt(i - 2) == b.charAt(j - 1) && a.charAt(i - 1) == b.charAt(j - 2)) {
                        d[i][j] = Math.min(d[i][j], d[i - 2][j - 2] + 1);
                    }
                }
            }
            return d[a.length()][b.length()];
        }

        Object learn(long first, long second) {
            String pair = asked(first) + " " + asked(second);
            if (!pairs.containsKey(pair) && pairs.size() == 40) {
                throw new IllegalStateException();
            }
            return pairs.merge(pair, 1, Integer::sum);
        }

        Object say(long number) {
            String word = asked(number);
            if (phrase.size() == 4) {
                throw new IllegalStateException();
            }
            phrase.add(word);
            return phrase.size();
        }

        Object correct(int number) {
            List<String> said = new ArrayList<>(phrase);
            phrase.clear();
            Map<String, Integer> costs = dictionary(number).costs;
            if (said.isEmpty()) {
                throw new IllegalStateException();
            }
            Choice best = new Choice();
            tryAll(said, costs, new ArrayList<>(), 0, best);
            corrected = best.words;
            return best.cost;
        }

        /** Tries every choice in order, so that the first of the same cost is kept. */
        private void tryAll(List<String> said, Map<String, Integer> costs, List<String> chosen, int sum, Choice best) {
            if (chosen.size() == said.size()) {
                if (best.words.isEmpty() || sum < best.cost) {
                    best.words = new ArrayList<>(chosen);
                    best.cost = sum;
                }
                return;
            }
            String word = said.get(chosen.size());
            boolean known = false;
            for (Map.Entry<String, Integer> entry : costs.entrySet()) {
                int far = changes(word, entry.getKey());
                if (far <= 1) {
                    known = true;
                    int more = 3000 * far + entry.getValue() - saving(chosen, entry.getKey());
                    chosen.add(entry.getKey());
                    tryAll(said, costs, chosen, sum + more, best);
                    chosen.remove(chosen.size() - 1);
                }
            }
            if (!known) {
                int more = 20000 - saving(chosen, word);
                chosen.add(word);
                tryAll(said, costs, chosen, sum + more, best);
                chosen.remove(chosen.size() - 1);
            }
        }

        private int saving(List<String> chosen, String next) {
            if (chosen.isEmpty()) {
                return 0;
            }
            return 400 * Math.min(5, pairs.getOrDefault(chosen.get(chosen.size() - 1) + " " + next, 0));
        }

        Object wordAt(List<String> words, int k) {
            if (k < 0 || k >= words.size()) {
                throw new IndexOutOfBoundsException();
            }
            long number = 0;
            for (char letter : words.get(k).toCharArray()) {
                number = number * 256 + letter;
            }
            return number;
        }

        private Held dictionary(int number) {
            if (!dictionaries.containsKey(number)) {
                throw new NoSuchElementException();
            }
            return dictionaries.get(number);
        }

        private static String asked(long number) {
            String word = letters(number);
            if (!word.matches("[a-j]{1,8}")) {
                throw new IllegalArgumentException();
            }
            return word;
        }

        /** The bytes of a number as characters, without the zeros before the first one. */
        private static String letters(long number) {
            StringBuilder text = new StringBuilder();
            for (int shift = 56; shift >= 0; shift -= 8) {
                char letter = (char) (number >>> shift & 255);
                if (letter != 0 || text.length() > 0) {
                    text.append(letter);
                }
            }
            return text.toString();
        }
    }

    private static final class Choice {
        List<String> words = new ArrayList<>();
        int cost = 0;
    }
}
