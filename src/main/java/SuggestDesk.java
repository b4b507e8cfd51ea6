import java.util.NoSuchElementException;

/**
 * A desk of suggestions: a draft of weighted words becomes dictionaries, which complete
 * beginnings, find near words and correct phrases. The document tells what each call promises.
 *
 * Every row is made in a constructor and used again, so no call makes objects but the
 * exceptions it throws.
 */
public final class SuggestDesk {
    private static final int MOST_LETTERS = 8;
    private static final int LETTER_BITS = 8;
    private static final int TEXT_BITS = 64;
    private static final int LETTER_MASK = 255;
    private static final int FIRST_LETTER = 97;
    private static final int LAST_LETTER = 106;
    private static final int MOST_WORDS = 24;
    private static final int MOST_WEIGHT = 9999;
    private static final int MOST_DICTIONARIES = 3;
    private static final int MOST_READERS = 9;
    private static final int MOST_NEAR = 2;
    private static final int MOST_PAIRS = 40;
    private static final int MOST_SAID = 4;
    private static final int CANDIDATE_DISTANCE = 1;
    private static final int CHANGE_COST = 3000;
    private static final int UNKNOWN_COST = 20000;
    private static final int PAIR_SAVING = 400;
    private static final int MOST_TIMES = 5;

    private final WordList draft;
    private final Dictionary[] shelf;
    private final Automaton automaton;
    private final Ruler ruler;
    private final Suggestions suggestions;
    private final Pairs pairs;
    private final Phrase phrase;
    /** How many dictionaries were made: the number of the current one, 0 while there is none. */
    private int made;

    public SuggestDesk() {
        draft = new WordList();
        shelf = new Dictionary[MOST_DICTIONARIES];
        for (int i = 0; i < MOST_DICTIONARIES; i++) {
            shelf[i] = new Dictionary();
        }
        automaton = new Automaton();
        ruler = new Ruler();
        suggestions = new Suggestions();
        pairs = new Pairs();
        phrase = new Phrase();
        made = 0;
    }

    public int word(long word, int weight) throws IllegalArgumentException, IllegalStateException {
        if (!Texts.isWord(word)) {
            throw new IllegalArgumentException("no word");
        }
        if (weight < 0 || weight > MOST_WEIGHT) {
            throw new IllegalArgumentException("no weight");
        }
        if (!draft.put(Texts.ofNumber(word), MOST_WEIGHT - weight)) {
            throw new IllegalStateException("the draft is full");
        }
        return draft.size();
    }

    public boolean drop(long word) {
        return Texts.isWord(word) && draft.remove(Texts.ofNumber(word));
    }

    public int build() throws IllegalStateException {
        if (draft.size() == 0) {
            throw new IllegalStateException("the draft is empty");
        }
        Dictionary place = placeForNext();
        if (place == null) {
            throw new IllegalStateException("every dictionary is held");
        }
        made++;
        automaton.measure(draft);
        place.fill(made, draft, automaton.states(), automaton.arcs());
        return made;
    }

    public int hold() throws IllegalStateException {
        Dictionary current = find(made);
        if (current == null) {
            throw new IllegalStateException("no dictionary yet");
        }
        if (current.readers() >= MOST_READERS) {
            throw new IllegalStateException("too many readers");
        }
        current.addReader();
        return made;
    }

    public boolean release(int dictionary) throws IllegalArgumentException {
        Dictionary held = find(dictionary);
        if (held == null || held.readers() == 0) {
            throw new IllegalArgumentException("no reader holds it");
        }
        held.removeReader();
        if (held.readers() == 0 && dictionary != made) {
            held.clear();
        }
        return held.isThere();
    }

    public int look(int dictionary, int what) throws NoSuchElementException, IllegalArgumentException {
        Dictionary seen = find(dictionary);
        if (seen == null) {
            throw new NoSuchElementException("no such dictionary");
        }
        switch (what) {
            case 0:
                return seen.words().size();
            case 1:
                return seen.states();
            case 2:
                return seen.arcs();
            case 3:
                return seen.readers();
            default:
                throw new IllegalArgumentException("no such what");
        }
    }

    public int cost(int dictionary, long word) throws NoSuchElementException {
        Dictionary asked = find(dictionary);
        if (asked == null) {
            throw new NoSuchElementException("no such dictionary");
        }
        int at = Texts.isWord(word) ? asked.words().indexOf(Texts.ofNumber(word)) : -1;
        if (at < 0) {
            throw new NoSuchElementException("the dictionary has not the word");
        }
        return asked.words().costAt(at);
    }

    public int complete(int dictionary, long begin, int n) throws IllegalArgumentException, NoSuchElementException {
        suggestions.startAnew(0);
        if (!Texts.isBeginning(begin)) {
            throw new IllegalArgumentException("no beginning");
        }
        if (n < 0 || n > MOST_WORDS) {
            throw new IllegalArgumentException("no such number of words");
        }
        Dictionary asked = find(dictionary);
        if (asked == null) {
            throw new NoSuchElementException("no such dictionary");
        }
        suggestions.startAnew(n);
        suggestions.takeBeginning(asked.words(), Texts.ofNumber(begin));
        return suggestions.size();
    }

    public int near(int dictionary, long word, int distance) throws IllegalArgumentException, NoSuchElementException {
        suggestions.startAnew(0);
        if (!Texts.isWord(word)) {
            throw new IllegalArgumentException("no word");
        }
        if (distance < 0 || distance > MOST_NEAR) {
            throw new IllegalArgumentException("no such distance");
        }
        Dictionary asked = find(dictionary);
        if (asked == null) {
            throw new NoSuchElementException("no such dictionary");
        }
        suggestions.startAnew(MOST_WORDS);
        suggestions.takeNear(asked.words(), Texts.ofNumber(word), distance, ruler);
        return suggestions.size();
    }

    public long given(int k) throws IndexOutOfBoundsException {
        if (k < 0 || k >= suggestions.size()) {
            throw new IndexOutOfBoundsException("no such word was given");
        }
        return Texts.toNumber(suggestions.textAt(k));
    }

    public int distance(long a, long b) throws IllegalArgumentException {
        if (!Texts.isWord(a) || !Texts.isWord(b)) {
            throw new IllegalArgumentException("no word");
        }
        return ruler.between(Texts.ofNumber(a), Texts.ofNumber(b));
    }

    public int learn(long first, long second) throws IllegalArgumentException, IllegalStateException {
        if (!Texts.isWord(first) || !Texts.isWord(second)) {
            throw new IllegalArgumentException("no word");
        }
        int times = pairs.add(Texts.ofNumber(first), Texts.ofNumber(second));
        if (times == 0) {
            throw new IllegalStateException("too many pairs");
        }
        return times;
    }

    public int say(long word) throws IllegalArgumentException, IllegalStateException {
        if (!Texts.isWord(word)) {
            throw new IllegalArgumentException("no word");
        }
        if (!phrase.add(Texts.ofNumber(word))) {
            throw new IllegalStateException("the phrase is full");
        }
        return phrase.size();
    }

    public int correct(int dictionary) throws NoSuchElementException, IllegalStateException {
        Dictionary asked = find(dictionary);
        if (asked == null) {
            phrase.clear();
            throw new NoSuchElementException("no such dictionary");
        }
        if (phrase.size() == 0) {
            throw new IllegalStateException("the phrase is empty");
        }
        int lowest = phrase.settle(asked.words(), ruler, pairs);
        phrase.clear();
        return lowest;
    }

    public long corrected(int k) throws IndexOutOfBoundsException {
        if (k < 0 || k >= phrase.chosenSize()) {
            throw new IndexOutOfBoundsException("no such word was corrected");
        }
        return Texts.toNumber(phrase.chosenAt(k));
    }

    /** The dictionary that is there under a number, or null. */
    private Dictionary find(int number) {
        for (int i = 0; i < MOST_DICTIONARIES; i++) {
            if (shelf[i].isThere() && shelf[i].number() == number) {
                return shelf[i];
            }
        }
        return null;
    }

    /** Where the next dictionary may stand, or null when all that are there would stay. */
    private Dictionary placeForNext() {
        Dictionary current = find(made);
        // Nobody holds it, so it would go as soon as it is no more the current one.
        if (current != null && current.readers() == 0) {
            return current;
        }
        for (int i = 0; i < MOST_DICTIONARIES; i++) {
            if (!shelf[i].isThere()) {
                return shelf[i];
            }
        }
        return null;
    }

    /**
     * Words as texts: the letters as bytes of a long, the FIRST one the highest, zeros behind
     * the last one. Texts compare as numbers just as the words are ordered, and a beginning or
     * an ending is cut off by a mask or a shift.
     */
    private static final class Texts {
        static boolean isWord(long number) {
            return number != 0 && isBeginning(number);
        }

        static boolean isBeginning(long number) {
            long rest = number;
            for (int i = 0; i < MOST_LETTERS && rest != 0; i++) {
                long letter = rest & LETTER_MASK;
                if (letter < FIRST_LETTER || letter > LAST_LETTER) {
                    return false;
                }
                rest = rest >>> LETTER_BITS;
            }
            return true;
        }

        static long ofNumber(long number) {
            long text = number;
            for (int i = 0; i < MOST_LETTERS && letterAt(text, 0) == 0; i++) {
                text = text << LETTER_BITS;
            }
            return text;
        }

        static long toNumber(long text) {
            long number = text;
            for (int i = 0; i < MOST_LETTERS && (number & LETTER_MASK) == 0; i++) {
                number = number >>> LETTER_BITS;
            }
            return number;
        }

        static int lengthOf(long text) {
            int length = 0;
            while (length < MOST_LETTERS && letterAt(text, length) != 0) {
                length++;
            }
            return length;
        }

        /** The letter at a place from 0 to 7, 0 behind the last one. */
        static int letterAt(long text, int place) {
            return (int) (text >>> (TEXT_BITS - LETTER_BITS * (place + 1))) & LETTER_MASK;
        }

        /** The first letters of a text. A shift by 64 would shift by 0, so 0 letters stand apart. */
        static long head(long text, int letters) {
            return letters <= 0 ? 0 : text & (-1L << (TEXT_BITS - LETTER_BITS * letters));
        }

        /** What stands behind the first letters; 8 letters stand apart as in head(). */
        static long tail(long text, int letters) {
            return letters >= MOST_LETTERS ? 0 : text << (LETTER_BITS * letters);
        }

        static int sharedLetters(long a, long b) {
            int shared = 0;
            while (shared < MOST_LETTERS && letterAt(a, shared) != 0 && letterAt(a, shared) == letterAt(b, shared)) {
                shared++;
            }
            return shared;
        }
    }

    /** Words with their costs, each once, always in order. */
    private static final class WordList {
        private final long[] texts = new long[MOST_WORDS];
        private final int[] costs = new int[MOST_WORDS];
        private int size = 0;

        int size() {
            return size;
        }

        long textAt(int i) {
            return texts[i];
        }

        int costAt(int i) {
            return costs[i];
        }

        int indexOf(long text) {
            int at = firstNotBefore(text);
            return at < size && texts[at] == text ? at : -1;
        }

        /** Puts a word in or changes its cost: false, if there is no room for it. */
        boolean put(long text, int cost) {
            int at = firstNotBefore(text);
            if (at < size && texts[at] == text) {
                costs[at] = cost;
                return true;
            }
            if (size >= MOST_WORDS) {
                return false;
            }
            for (int i = size; i > at; i--) {
                texts[i] = texts[i - 1];
                costs[i] = costs[i - 1];
            }
            texts[at] = text;
            costs[at] = cost;
            size++;
            return true;
        }

        boolean remove(long text) {
            int at = indexOf(text);
            if (at < 0) {
                return false;
            }
            size--;
            for (int i = at; i < size; i++) {
                texts[i] = texts[i + 1];
                costs[i] = costs[i + 1];
            }
            return true;
        }

        void copyFrom(WordList other) {
            size = other.size;
            for (int i = 0; i < size; i++) {
                texts[i] = other.texts[i];
                costs[i] = other.costs[i];
            }
        }

        private int firstNotBefore(long text) {
            int at = 0;
            while (at < size && texts[at] < text) {
                at++;
            }
            return at;
        }
    }

    /** A place for a dictionary; its number is 0 while none stands there. */
    private static final class Dictionary {
        private final WordList words = new WordList();
        private int number = 0;
        private int readers = 0;
        private int states = 0;
        private int arcs = 0;

        void fill(int newNumber, WordList newWords, int newStates, int newArcs) {
            words.copyFrom(newWords);
            number = newNumber;
            readers = 0;
            states = newStates;
            arcs = newArcs;
        }

        void clear() {
            number = 0;
        }

        boolean isThere() {
            return number > 0;
        }

        int number() {
            return number;
        }

        WordList words() {
            return words;
        }

        int states() {
            return states;
        }

        int arcs() {
            return arcs;
        }

        int readers() {
            return readers;
        }

        void addReader() {
            readers++;
        }

        void removeReader() {
            readers--;
        }
    }

    /**
     * Measures the automaton of a word list. The words of one beginning stand side by side in
     * the list, so a beginning is told by its first word, how many words it has, and its
     * letters; one beginning is kept for each state.
     */
    private static final class Automaton {
        private static final int MOST_STATES = MOST_WORDS * MOST_LETTERS + 1;

        private final int[] starts = new int[MOST_STATES];
        private final int[] counts = new int[MOST_STATES];
        private final int[] lengths = new int[MOST_STATES];
        private final int[] lowests = new int[MOST_STATES];
        private int states = 0;
        private int arcs = 0;

        int states() {
            return states;
        }

        int arcs() {
            return arcs;
        }

        void measure(WordList words) {
            states = 0;
            arcs = 0;
            for (int i = 0; i < words.size(); i++) {
                long text = words.textAt(i);
                // What a word shares with the one before it was a beginning there already.
                int from = i == 0 ? 0 : Texts.sharedLetters(words.textAt(i - 1), text) + 1;
                int length = Texts.lengthOf(text);
                for (int letters = from; letters <= length; letters++) {
                    addBeginning(words, i, letters);
                }
            }
        }

        private void addBeginning(WordList words, int start, int letters) {
            if (states >= MOST_STATES) {
                return;
            }
            // The newest state lies just behind those that are kept, and is kept if it is a new one.
            starts[states] = start;
            counts[states] = countWords(words, start, letters);
            lengths[states] = letters;
            lowests[states] = lowestCost(words, start, counts[states]);
            for (int i = 0; i < states; i++) {
                if (behaveTheSame(words, i, states)) {
                    return;
                }
            }
            arcs += countArcs(words, states);
            states++;
        }

        private static int countWords(WordList words, int start, int letters) {
            long beginning = Texts.head(words.textAt(start), letters);
            int end = start + 1;
            while (end < words.size() && Texts.head(words.textAt(end), letters) == beginning) {
                end++;
            }
            return end - start;
        }

        private static int lowestCost(WordList words, int start, int count) {
            int lowest = words.costAt(start);
            for (int i = 1; i < count; i++) {
                lowest = Math.min(lowest, words.costAt(start + i));
            }
            return lowest;
        }

        private boolean behaveTheSame(WordList words, int one, int other) {
            if (counts[one] != counts[other]) {
                return false;
            }
            for (int i = 0; i < counts[one]; i++) {
                if (endingAt(words, one, i) != endingAt(words, other, i)
                        || costAbove(words, one, i) != costAbove(words, other, i)) {
                    return false;
                }
            }
            return true;
        }

        private int countArcs(WordList words, int state) {
            int found = 0;
            int last = 0;
            for (int i = 0; i < counts[state]; i++) {
                int letter = Texts.letterAt(endingAt(words, state, i), 0);
                // Endings stand in order: the empty one first, then those of one letter together.
                if (letter != last) {
                    found++;
                    last = letter;
                }
            }
            return found;
        }

        private long endingAt(WordList words, int state, int i) {
            return Texts.tail(words.textAt(starts[state] + i), lengths[state]);
        }

        private int costAbove(WordList words, int state, int i) {
            return words.costAt(starts[state] + i) - lowests[state];
        }
    }

    /** Measures the distance of two texts. */
    private static final class Ruler {
        private final int[][] least = new int[MOST_LETTERS + 1][MOST_LETTERS + 1];

        Ruler() {
            for (int i = 0; i <= MOST_LETTERS; i++) {
                least[i][0] = i;
                least[0][i] = i;
            }
        }

        int between(long a, long b) {
            int lengthOfA = Texts.lengthOf(a);
            int lengthOfB = Texts.lengthOf(b);
            for (int i = 1; i <= lengthOfA; i++) {
                for (int j = 1; j <= lengthOfB; j++) {
                    least[i][j] = leastChanges(a, b, i, j);
                }
            }
            return least[lengthOfA][lengthOfB];
        }

        private int leastChanges(long a, long b, int i, int j) {
            int letterOfA = Texts.letterAt(a, i - 1);
            int letterOfB = Texts.letterAt(b, j - 1);
            int changes = least[i - 1][j - 1] + (letterOfA == letterOfB ? 0 : 1);
            changes = Math.min(changes, least[i - 1][j] + 1);
            changes = Math.min(changes, least[i][j - 1] + 1);
            if (i > 1 && j > 1 && letterOfA == Texts.letterAt(b, j - 2) && letterOfB == Texts.letterAt(a, i - 2)) {
                changes = Math.min(changes, least[i - 2][j - 2] + 1);
            }
            return changes;
        }
    }

    /** The words that are given, the lowest rank first; it keeps texts, for a dictionary may go. */
    private static final class Suggestions {
        private final long[] texts = new long[MOST_WORDS];
        private final int[] ranks = new int[MOST_WORDS];
        private int size = 0;
        private int most = 0;

        void startAnew(int atMost) {
            size = 0;
            most = Math.min(atMost, MOST_WORDS);
        }

        int size() {
            return size;
        }

        long textAt(int i) {
            return texts[i];
        }

        void takeBeginning(WordList words, long beginning) {
            int letters = Texts.lengthOf(beginning);
            for (int i = 0; i < words.size(); i++) {
                if (Texts.head(words.textAt(i), letters) == beginning) {
                    offer(words.textAt(i), words.costAt(i));
                }
            }
        }

        void takeNear(WordList words, long text, int farthest, Ruler ruler) {
            for (int i = 0; i < words.size(); i++) {
                int changes = ruler.between(text, words.textAt(i));
                if (changes <= farthest) {
                    // A step of distance weighs more than any cost.
                    offer(words.textAt(i), changes * (MOST_WEIGHT + 1) + words.costAt(i));
                }
            }
        }

        /** Words are offered in order, so one goes behind those of its rank. */
        private void offer(long text, int rank) {
            int at = size;
            while (at > 0 && ranks[at - 1] > rank) {
                at--;
            }
            if (at >= most) {
                return;
            }
            int last = Math.min(size, most - 1);
            for (int i = last; i > at; i--) {
                texts[i] = texts[i - 1];
                ranks[i] = ranks[i - 1];
            }
            texts[at] = text;
            ranks[at] = rank;
            size = last + 1;
        }
    }

    /** How often a word was learnt behind another one. */
    private static final class Pairs {
        private final long[] firsts = new long[MOST_PAIRS];
        private final long[] seconds = new long[MOST_PAIRS];
        private final int[] times = new int[MOST_PAIRS];
        private int size = 0;

        /** How often the pair was learnt now; 0, if there is no room for it. */
        int add(long first, long second) {
            int at = indexOf(first, second);
            if (at < 0) {
                if (size >= MOST_PAIRS) {
                    return 0;
                }
                at = size;
                firsts[at] = first;
                seconds[at] = second;
                times[at] = 0;
                size++;
            }
            times[at]++;
            return times[at];
        }

        int saving(long first, long second) {
            int at = indexOf(first, second);
            return at < 0 ? 0 : PAIR_SAVING * Math.min(times[at], MOST_TIMES);
        }

        private int indexOf(long first, long second) {
            for (int i = 0; i < size; i++) {
                if (firsts[i] == first && seconds[i] == second) {
                    return i;
                }
            }
            return -1;
        }
    }

    /** The phrase that is said, and the one that was chosen in place of the last one. */
    private static final class Phrase {
        private final long[] said = new long[MOST_SAID];
        private final long[] chosen = new long[MOST_SAID];
        private final long[][] candidates = new long[MOST_SAID][MOST_WORDS];
        /** The cost of a candidate with the best choice of all words behind it. */
        private final int[][] costs = new int[MOST_SAID][MOST_WORDS];
        private final int[][] followers = new int[MOST_SAID][MOST_WORDS];
        private final int[] counts = new int[MOST_SAID];
        private int size = 0;
        private int chosenSize = 0;

        int size() {
            return size;
        }

        boolean add(long text) {
            if (size >= MOST_SAID) {
                return false;
            }
            said[size] = text;
            size++;
            return true;
        }

        void clear() {
            size = 0;
        }

        int chosenSize() {
            return chosenSize;
        }

        long chosenAt(int k) {
            return chosen[k];
        }

        /** Chooses a candidate for each word: the cost of the choice. */
        int settle(WordList words, Ruler ruler, Pairs pairs) {
            // From the last word to the first: so the first word's choice is made first, as ties ask.
            for (int place = size - 1; place >= 0; place--) {
                gather(place, words, ruler);
                if (place < size - 1) {
                    chooseFollowers(place, pairs);
                }
            }
            return choose();
        }

        private void gather(int place, WordList words, Ruler ruler) {
            int count = 0;
            for (int i = 0; i < words.size(); i++) {
                int changes = ruler.between(said[place], words.textAt(i));
                if (changes <= CANDIDATE_DISTANCE) {
                    candidates[place][count] = words.textAt(i);
                    costs[place][count] = CHANGE_COST * changes + words.costAt(i);
                    count++;
                }
            }
            if (count == 0) {
                candidates[place][0] = said[place];
                costs[place][0] = UNKNOWN_COST;
                count = 1;
            }
            counts[place] = count;
        }

        private void chooseFollowers(int place, Pairs pairs) {
            for (int i = 0; i < counts[place]; i++) {
                int follower = 0;
                int lowest = costWith(place, i, 0, pairs);
                for (int j = 1; j < counts[place + 1]; j++) {
                    int cost = costWith(place, i, j, pairs);
                    if (cost < lowest) {
                        follower = j;
                        lowest = cost;
                    }
                }
                followers[place][i] = follower;
                costs[place][i] = lowest;
            }
        }

        private int costWith(int place, int candidate, int follower, Pairs pairs) {
            long first = candidates[place][candidate];
            long second = candidates[place + 1][follower];
            return costs[place][candidate] + costs[place + 1][follower] - pairs.saving(first, second);
        }

        private int choose() {
            int best = 0;
            for (int i = 1; i < counts[0]; i++) {
                if (costs[0][i] < costs[0][best]) {
                    best = i;
                }
            }
            int at = best;
            chosen[0] = candidates[0][at];
            for (int place = 1; place < size; place++) {
                at = followers[place - 1][at];
                chosen[place] = candidates[place][at];
            }
            chosenSize = size;
            return costs[0][best];
        }
    }
}
