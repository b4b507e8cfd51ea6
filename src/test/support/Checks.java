import java.util.NoSuchElementException;

/** What the tests share: words told as letters, desks made of words, and checks that are counted. */
public abstract class Checks {
    protected interface Call {
        Object run();
    }

    protected static final Class<IllegalArgumentException> ARGUMENT = IllegalArgumentException.class;
    protected static final Class<IllegalStateException> STATE = IllegalStateException.class;
    protected static final Class<IndexOutOfBoundsException> INDEX = IndexOutOfBoundsException.class;
    protected static final Class<NoSuchElementException> NONE = NoSuchElementException.class;
    protected static final long A = number("a");

    private static int checks = 0;
    private static int wrong = 0;
    private static String part = "";

    /** Names what is tested from here on, for the rows of what is wrong. */
    protected static void part(String name) {
        part = name;
    }

    protected static void end() {
        System.out.println(checks + " checks, " + wrong + " wrong");
        if (wrong != 0) {
            System.exit(1);
        }
    }

    protected static void due(String what, Object got, Object want) {
        checks++;
        if (!got.equals(want)) {
            wrong++;
            System.out.println(part + ": " + what + ": " + got + ", due is " + want);
        }
    }

    protected static void refused(String what, Class<? extends RuntimeException> thrown, Call call) {
        due(what, outcome(call), thrown);
    }

    /** What a call answers, or the class of what it throws. */
    protected static Object outcome(Call call) {
        try {
            return call.run();
        } catch (RuntimeException thrown) {
            return thrown.getClass();
        }
    }

    protected static long number(String letters) {
        long number = 0;
        for (char letter : letters.toCharArray()) {
            number = number << 8 | letter;
        }
        return number;
    }

    protected static String repeated(char letter, int length) {
        return String.valueOf(letter).repeat(length);
    }

    protected static long twoLetters(int i) {
        return number("" + (char) ('a' + i / 10) + (char) ('a' + i % 10));
    }

    protected static void fill(SuggestDesk desk, int count) {
        for (int i = 0; i < count; i++) {
            due("word " + i, desk.word(twoLetters(i), i), i + 1);
        }
    }

    /** A desk with a draft of words, each told as letters and weight. */
    protected static SuggestDesk desk(String... words) {
        SuggestDesk desk = new SuggestDesk();
        for (String word : words) {
            String[] parts = word.split(" ");
            desk.word(number(parts[0]), Integer.parseInt(parts[1]));
        }
        return desk;
    }

    /** A desk whose dictionary 1 has these words. */
    protected static SuggestDesk built(String... words) {
        SuggestDesk desk = desk(words);
        desk.build();
        return desk;
    }

    protected static void looks(SuggestDesk desk, int dictionary, int words, int states, int arcs) {
        due("words", desk.look(dictionary, 0), words);
        due("states", desk.look(dictionary, 1), states);
        due("arcs", desk.look(dictionary, 2), arcs);
    }

    /** These words are given, and none before the first or behind the last one. */
    protected static void given(SuggestDesk desk, String... words) {
        for (int k = 0; k < words.length; k++) {
            int at = k;
            due("given " + k, outcome(() -> desk.given(at)), number(words[k]));
        }
        refused("given before the first", IndexOutOfBoundsException.class, () -> desk.given(-1));
        refused("given behind the last", IndexOutOfBoundsException.class, () -> desk.given(words.length));
    }

    protected static void corrected(SuggestDesk desk, String... words) {
        for (int k = 0; k < words.length; k++) {
            int at = k;
            due("corrected " + k, outcome(() -> desk.corrected(at)), number(words[k]));
        }
        refused("corrected before the first", IndexOutOfBoundsException.class, () -> desk.corrected(-1));
        refused("corrected behind the last", IndexOutOfBoundsException.class, () -> desk.corrected(words.length));
    }

    protected static void corrects(SuggestDesk desk, int dictionary, String phrase, int cost, String... words) {
        for (String word : phrase.split(" ")) {
            desk.say(number(word));
        }
        due("cost of " + phrase, outcome(() -> desk.correct(dictionary)), cost);
        corrected(desk, words);
    }

    protected static void distanceDue(String a, String b, int want) {
        SuggestDesk desk = new SuggestDesk();
        due(a + " to " + b, desk.distance(number(a), number(b)), want);
        due(b + " to " + a, desk.distance(number(b), number(a)), want);
    }
}
