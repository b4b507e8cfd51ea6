/**
 * What the object answers after a refused call: each refused call is made on a desk that has a
 * twin without that call, and all that can be asked of the two must be the same. What the document
 * says of a call that throws (nothing is given, the phrase is empty) the twin is made to have.
 */
public final class RefusalTests extends Checks {
    private static final long NEW = number("jj");
    private static final int MOST_CALLS = 512;
    private static final int MOST_MAKING_CALLS = 120;

    private interface Maker {
        SuggestDesk make();
    }

    private interface Step {
        Object take(SuggestDesk desk);
    }

    public static void main(String[] args) {
        newDesk();
        draft();
        dictionaries();
        suggestions();
        pairsAndPhrase();
        unheldDesk();
        end();
    }

    /** On a new object, where nearly all is refused. */
    private static void newDesk() {
        part("1 a new object");
        Maker fresh = SuggestDesk::new;
        alike("word", fresh, ARGUMENT, desk -> desk.word(0, 1));
        alike("weight", fresh, ARGUMENT, desk -> desk.word(A, 10000));
        alike("drop", fresh, false, desk -> desk.drop(A));
        alike("build", fresh, STATE, SuggestDesk::build);
        alike("hold", fresh, STATE, SuggestDesk::hold);
        alike("release", fresh, ARGUMENT, desk -> desk.release(1));
        alike("look", fresh, NONE, desk -> desk.look(1, 0));
        alike("cost", fresh, NONE, desk -> desk.cost(1, A));
        alike("complete", fresh, NONE, desk -> desk.complete(1, 0, 24));
        alike("near", fresh, NONE, desk -> desk.near(1, A, 2));
        alike("given", fresh, INDEX, desk -> desk.given(0));
        alike("distance", fresh, ARGUMENT, desk -> desk.distance(A, 0));
        alike("learn", fresh, ARGUMENT, desk -> desk.learn(A, 0));
        alike("say", fresh, ARGUMENT, desk -> desk.say(0));
        alike("correct", fresh, NONE, desk -> desk.correct(1));
        alike("corrected", fresh, INDEX, desk -> desk.corrected(0));
    }

    private static void draft() {
        part("2 word");
        Maker full = RefusalTests::fullDesk;
        alike("no word", full, ARGUMENT, desk -> desk.word(96, 1));
        alike("weight too small", full, ARGUMENT, desk -> desk.word(twoLetters(3), -1));
        alike("weight too large", full, ARGUMENT, desk -> desk.word(twoLetters(3), 10000));
        alike("the 25th", full, STATE, desk -> desk.word(NEW, 9999));
        alike("the 25th before the first", full, STATE, desk -> desk.word(A, 9999));
        part("3 drop");
        alike("not there", full, false, desk -> desk.drop(NEW));
        alike("before the first", full, false, desk -> desk.drop(A));
        alike("no word", full, false, desk -> desk.drop(0));
        alike("a word of the draft with a byte more", full, false, desk -> desk.drop(twoLetters(3) | 1L << 32));
    }

    private static void dictionaries() {
        Maker full = RefusalTests::fullDesk;
        part("4 build");
        alike("3 would stay", full, STATE, SuggestDesk::build);
        alike("empty draft", RefusalTests::deskWithEmptyDraft, STATE, SuggestDesk::build);
        part("5 hold");
        alike("9 readers", full, STATE, SuggestDesk::hold);
        part("6 release");
        alike("the next number", full, ARGUMENT, desk -> desk.release(5));
        alike("a number that went", full, ARGUMENT, desk -> desk.release(2));
        alike("number 0", full, ARGUMENT, desk -> desk.release(0));
        part("7 look");
        alike("no dictionary", full, NONE, desk -> desk.look(5, 0));
        alike("what too small", full, ARGUMENT, desk -> desk.look(1, -1));
        alike("what too large", full, ARGUMENT, desk -> desk.look(4, 4));
        part("8 cost");
        alike("no dictionary", full, NONE, desk -> desk.cost(2, twoLetters(0)));
        alike("no such word", full, NONE, desk -> desk.cost(1, NEW));
        alike("no word", full, NONE, desk -> desk.cost(4, 0));
    }

    private static void suggestions() {
        part("9 complete");
        givesNothing("no beginning", ARGUMENT, desk -> desk.complete(4, 96, 24));
        givesNothing("n too small", ARGUMENT, desk -> desk.complete(4, 0, -1));
        givesNothing("n too large", ARGUMENT, desk -> desk.complete(4, 0, 25));
        givesNothing("no dictionary", NONE, desk -> desk.complete(2, 0, 24));
        part("10 near");
        givesNothing("no word", ARGUMENT, desk -> desk.near(4, 0, 1));
        givesNothing("distance too small", ARGUMENT, desk -> desk.near(4, twoLetters(0), -1));
        givesNothing("distance too large", ARGUMENT, desk -> desk.near(4, twoLetters(0), 3));
        givesNothing("no dictionary", NONE, desk -> desk.near(5, twoLetters(0), 1));
        Maker full = RefusalTests::fullDesk;
        part("11 given");
        alike("before the first", full, INDEX, desk -> desk.given(-1));
        alike("behind the last", full, INDEX, desk -> desk.given(24));
        part("12 distance");
        alike("no first word", full, ARGUMENT, desk -> desk.distance(0, A));
        alike("no second word", full, ARGUMENT, desk -> desk.distance(A, 107));
    }

    private static void pairsAndPhrase() {
        Maker full = RefusalTests::fullDesk;
        Maker unsaid = RefusalTests::deskWithoutPhrase;
        part("13 learn");
        alike("no first word", full, ARGUMENT, desk -> desk.learn(0, twoLetters(1)));
        alike("no second word", full, ARGUMENT, desk -> desk.learn(twoLetters(0), 0));
        alike("the 41st", full, STATE, desk -> desk.learn(NEW, NEW));
        part("14 say");
        alike("no word", full, ARGUMENT, desk -> desk.say(0));
        alike("no word in an empty phrase", unsaid, ARGUMENT, desk -> desk.say(0));
        alike("the fifth", full, STATE, desk -> desk.say(NEW));
        part("15 correct");
        // The phrase is empty afterwards, as it is in a twin that never said it.
        twins("no dictionary", full.make(), unsaid.make(), NONE, desk -> desk.correct(5));
        twins("a dictionary that went", full.make(), unsaid.make(), NONE, desk -> desk.correct(2));
        alike("no dictionary, no phrase", unsaid, NONE, desk -> desk.correct(5));
        alike("an empty phrase", unsaid, STATE, desk -> desk.correct(4));
        part("16 corrected");
        alike("before the first", full, INDEX, desk -> desk.corrected(-1));
        alike("behind the last", full, INDEX, desk -> desk.corrected(2));
    }

    /** Where the current dictionary has no reader, a refused call must not take it away. */
    private static void unheldDesk() {
        part("6 release, none holds it");
        Maker unheld = () -> built("a 1", "b 2");
        alike("the current one", unheld, ARGUMENT, desk -> desk.release(1));
        part("4 build, the draft is empty");
        alike("in place of the current one", () -> {
            SuggestDesk desk = built("a 1");
            desk.drop(A);
            return desk;
        }, STATE, SuggestDesk::build);
    }

    // The desks

    /** Every limit is reached: 24 words, 3 dictionaries, 9 readers, 40 pairs, a phrase of 4, 24 given. */
    private static SuggestDesk fullDesk() {
        SuggestDesk desk = deskWithoutPhrase();
        for (int i = 0; i < 4; i++) {
            desk.say(twoLetters(i * 2));
        }
        return desk;
    }

    private static SuggestDesk deskWithoutPhrase() {
        SuggestDesk desk = new SuggestDesk();
        addWords(desk, 0, 12);
        desk.build();
        desk.hold();
        desk.build();
        addWords(desk, 12, 20);
        desk.build();
        desk.hold();
        desk.hold();
        addWords(desk, 20, 24);
        desk.build();
        for (int reader = 0; reader < 9; reader++) {
            desk.hold();
        }
        for (int i = 0; i < 40; i++) {
            desk.learn(twoLetters(i / 6), twoLetters(i % 6));
        }
        desk.learn(twoLetters(0), twoLetters(1));
        desk.say(twoLetters(0));
        desk.say(twoLetters(1));
        desk.correct(4);
        desk.complete(4, 0, 24);
        return desk;
    }

    private static SuggestDesk deskWithEmptyDraft() {
        SuggestDesk desk = deskWithoutPhrase();
        for (int i = 0; i < 24; i++) {
            desk.drop(twoLetters(i));
        }
        desk.release(1);
        return desk;
    }

    private static void addWords(SuggestDesk desk, int from, int to) {
        for (int i = from; i < to; i++) {
            desk.word(twoLetters(i), i * 7 % 5 * 2000 + i);
        }
    }

    // The comparison

    private static void alike(String what, Maker maker, Object want, Step refused) {
        twins(what, maker.make(), maker.make(), want, refused);
    }

    /** Nothing is given after one that throws, as after one that completes to no word. */
    private static void givesNothing(String what, Object want, Step refused) {
        SuggestDesk twin = fullDesk();
        due("none", twin.complete(4, 0, 0), 0);
        twins(what, fullDesk(), twin, want, refused);
    }

    private static void twins(String what, SuggestDesk desk, SuggestDesk twin, Object want, Step refused) {
        due(what, outcome(() -> refused.take(desk)), want);
        due(what + ": what can be asked then", new Questions(desk).answers(), new Questions(twin).answers());
    }

    /**
     * Asks a desk all that can be asked. What is there is asked for before what is not, for a
     * question that is refused itself might hide what the refused call has done.
     */
    private static final class Questions {
        private final SuggestDesk desk;
        private final StringBuilder told = new StringBuilder();
        private int calls = 0;

        Questions(SuggestDesk desk) {
            this.desk = desk;
        }

        String answers() {
            askGiven();
            askCorrected();
            askPhrase();
            askPairs();
            int[] numbers = {1, 3, 4, 2, 5, 0};
            for (int number : numbers) {
                askDictionary(number);
            }
            askDraft();
            askReaders();
            due("few enough calls", calls <= MOST_CALLS - MOST_MAKING_CALLS, true);
            return told.toString();
        }

        private void askGiven() {
            for (int k = 0; k <= 24; k++) {
                int at = k;
                ask("given " + k, () -> desk.given(at));
            }
        }

        private void askCorrected() {
            for (int k = 0; k <= 4; k++) {
                int at = k;
                ask("corrected " + k, () -> desk.corrected(at));
            }
        }

        private void askPhrase() {
            ask("correct", () -> desk.correct(4));
            askCorrected();
            ask("say", () -> desk.say(NEW));
        }

        private void askPairs() {
            for (int i = 0; i < 44; i++) {
                int pair = i;
                ask("learn " + i, () -> desk.learn(twoLetters(pair / 6), twoLetters(pair % 6)));
            }
        }

        private void askDictionary(int number) {
            for (int what = 0; what <= 3; what++) {
                int asked = what;
                ask("look " + number + " " + what, () -> desk.look(number, asked));
            }
            ask("complete " + number, () -> desk.complete(number, 0, 24));
            for (int k = 0; k < 24; k += 3) {
                int at = k;
                ask("given " + k, () -> desk.given(at));
                ask("cost " + number + " " + k, () -> desk.cost(number, twoLetters(at)));
            }
        }

        private void askDraft() {
            ask("room for one", () -> desk.release(1));
            int built = ask("build", desk::build) instanceof Integer number ? number : 0;
            ask("words", () -> desk.look(built, 0));
            for (int i = 0; i < 24; i++) {
                int at = i;
                ask("cost " + i, () -> desk.cost(built, twoLetters(at)));
            }
            ask("word", () -> desk.word(NEW, 1));
        }

        private void askReaders() {
            for (int number = 5; number >= 0; number--) {
                int held = number;
                ask("release " + number, () -> desk.release(held));
                ask("release " + number, () -> desk.release(held));
            }
            ask("hold", desk::hold);
        }

        private Object ask(String question, Call call) {
            calls++;
            Object answer = outcome(call);
            told.append(question).append(" = ").append(answer).append("; ");
            return answer;
        }
    }
}
