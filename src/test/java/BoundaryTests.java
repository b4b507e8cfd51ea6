import java.util.ArrayList;
import java.util.Arrays;
import java.util.List;

/**
 * Each sentence of the document that names a boundary case has a test of its own here: the last
 * input that is still allowed, the first that is not, and which exception it throws.
 * RefusalTests tells what the object answers after a refused call.
 */
public final class BoundaryTests extends Checks {
    private static final List<Long> NO_WORDS = noWords();
    private static final List<String> WORDS = edgeWords();

    private interface Taker {
        Object take(SuggestDesk desk, long word);
    }

    public static void main(String[] args) {
        whatItIs();
        terms();
        draftPromises();
        dictionaryPromises();
        findingPromises();
        phrasePromises();
        end();
    }

    private static void whatItIs() {
        sentence("An object is used for at most 512 calls", BoundaryTests::all512CallsAreAnswered);
    }

    private static void terms() {
        sentence("A WORD has 1 to 8 letters a .. j", BoundaryTests::wordsAtTheEdges);
        sentence("the word its letters as bytes of a long, the last one the lowest", BoundaryTests::wordsKeepAllBytes);
        sentence("a word that begins another one comes first", BoundaryTests::wordsInOrder);
        sentence("A WEIGHT is 0 .. 9999; the COST is 9999 less", BoundaryTests::weightsAtTheEdges);
        sentence("THE DRAFT holds at most 24 words", BoundaryTests::draftOf24);
        sentence("the draft holds each word once", BoundaryTests::draftHoldsEachOnce);
        sentence("A DICTIONARY is made of what the draft holds then", BoundaryTests::dictionaryKeepsItsWords);
        sentence("what the draft holds stays", BoundaryTests::draftStaysBehindBuild);
        sentence("dictionaries have numbers 1, 2, ..; the latest is CURRENT", BoundaryTests::numbersOfDictionaries);
        sentence("One that is not current is there as long as readers hold it", BoundaryTests::heldAsLongAsReaders);
        sentence("at most 3 are there", BoundaryTests::threeAreThere);
        sentence("STATES: also the whole, and the empty one", BoundaryTests::smallestAutomata);
        sentence("STATES of the most words", BoundaryTests::largestAutomaton);
        sentence("R(u): each with its cost less the lowest cost", BoundaryTests::statesBesideCosts);
        sentence("TO COMPLETE a beginning (0 to 8 letters)", BoundaryTests::beginningsAtTheEdges);
        sentence("lower costs first, of the same cost in order", BoundaryTests::completeOrder);
        sentence("at most so many as are asked for", BoundaryTests::completeCutsOff);
        sentence("The DISTANCE: D(i, 0) = i, D(0, j) = j", BoundaryTests::distancesAtTheEdges);
        sentence("two that stand beside one another exchanged", BoundaryTests::distancesOfExchanges);
        sentence("no letter changed twice", BoundaryTests::noLetterChangedTwice);
        sentence("words with a distance up to 0, 1 or 2", BoundaryTests::nearUpToEachDistance);
        sentence("the lower distances first, then the lower costs, then in order", BoundaryTests::nearOrder);
        sentence("PAIRS: at most 40 pairs", BoundaryTests::fortyPairs);
        sentence("PAIRS: for two words (of any letters)", BoundaryTests::pairsAreApart);
        sentence("TO CORRECT a phrase of 1 to 4 words", BoundaryTests::phrasesAtTheEdges);
        sentence("a CANDIDATE: with a distance up to 1", BoundaryTests::candidatesUpToOne);
        sentence("a CANDIDATE of the most words", BoundaryTests::candidatesAtTheMost);
        sentence("the word itself when it has no such one: 20000", BoundaryTests::wordItself);
        sentence("3000 times the distance of each, its cost", BoundaryTests::changeAgainstCost);
        sentence("400 less for each learnt time of each two that follow", BoundaryTests::learntTimesOfEachTwo);
        sentence("at most 5 times are reckoned for two", BoundaryTests::fiveTimesAreReckoned);
        sentence("of several with the same cost the first in order", BoundaryTests::sameCostInOrder);
    }

    private static void draftPromises() {
        sentence("1 An empty draft", BoundaryTests::newDraft);
        sentence("1 no dictionary", BoundaryTests::newDesk);
        sentence("1 no pairs", BoundaryTests::newPairs);
        sentence("1 an empty phrase", BoundaryTests::newPhrase);
        sentence("2 how many it holds", BoundaryTests::wordCounts);
        sentence("2 another weight, when it is there", BoundaryTests::wordChangesWeight);
        sentence("2 IllegalArgumentException: it is no word", BoundaryTests::wordRefusesNoWords);
        sentence("2 IllegalArgumentException: it is no weight", BoundaryTests::wordRefusesNoWeights);
        sentence("2 IllegalStateException: it would hold more than 24", BoundaryTests::wordRefusesThe25th);
        sentence("3 false, if it is not there", BoundaryTests::dropOfWhatIsNotThere);
        sentence("3 A word goes from the draft", BoundaryTests::dropAtTheEdges);
    }

    private static void dictionaryPromises() {
        sentence("4 IllegalStateException: the draft is empty", BoundaryTests::buildRefusesEmptyDraft);
        sentence("4 IllegalStateException: 3 are there that would stay", BoundaryTests::buildRefusesAFourth);
        sentence("4 that would stay", BoundaryTests::buildInPlaceOfUnheld);
        sentence("5 IllegalStateException: there is none", BoundaryTests::holdRefusesWithoutAny);
        sentence("5 IllegalStateException: 9 readers hold it", BoundaryTests::holdRefusesTheTenth);
        sentence("6 whether it is there still", BoundaryTests::releaseTellsWhetherThere);
        sentence("6 IllegalArgumentException: none holds it", BoundaryTests::releaseRefuses);
        sentence("7 what 0 .. 3", BoundaryTests::lookAtTheEdges);
        sentence("7 NoSuchElementException: there is none", BoundaryTests::lookRefusesNoDictionary);
        sentence("7 IllegalArgumentException: no such what", BoundaryTests::lookRefusesNoWhat);
        sentence("8 NoSuchElementException: there is no such dictionary", BoundaryTests::costRefusesNoDictionary);
        sentence("8 NoSuchElementException: it has not the word", BoundaryTests::costRefusesOtherWords);
    }

    private static void findingPromises() {
        sentence("9 0 for none", BoundaryTests::completeOfNoLetters);
        sentence("9 at most n (0 .. 24)", BoundaryTests::completeUpToN);
        sentence("9 IllegalArgumentException: it is none", BoundaryTests::completeRefusesNoBeginnings);
        sentence("9 IllegalArgumentException: n is not so", BoundaryTests::completeRefusesOtherN);
        sentence("9 NoSuchElementException: no such dictionary", BoundaryTests::completeRefusesNoDictionary);
        sentence("10 up to a distance: how many", BoundaryTests::nearCounts);
        sentence("10 IllegalArgumentException: it is no word", BoundaryTests::nearRefusesNoWords);
        sentence("10 IllegalArgumentException: distance is not 0 .. 2", BoundaryTests::nearRefusesOtherDistances);
        sentence("10 NoSuchElementException: no such dictionary", BoundaryTests::nearRefusesNoDictionary);
        sentence("11 IndexOutOfBoundsException: there is none", BoundaryTests::givenRefuses);
        sentence("11 by complete() or near() last", BoundaryTests::givenByTheLast);
        sentence("11 nothing is given after one that throws", BoundaryTests::nothingGivenAfterAThrow);
        sentence("12 The distance of two words", BoundaryTests::distanceOfEdgeWords);
        sentence("12 IllegalArgumentException: one is none", BoundaryTests::distanceRefusesNoWords);
    }

    private static void phrasePromises() {
        sentence("13 how often that was", BoundaryTests::learnCounts);
        sentence("13 IllegalArgumentException: one is none", BoundaryTests::learnRefusesNoWords);
        sentence("13 IllegalStateException: there are 40 other pairs", BoundaryTests::learnRefusesThe41st);
        sentence("14 One more word of the phrase: how many", BoundaryTests::sayCounts);
        sentence("14 IllegalArgumentException: it is none", BoundaryTests::sayRefusesNoWords);
        sentence("14 IllegalStateException: there are 4", BoundaryTests::sayRefusesTheFifth);
        sentence("15 its choice's cost", BoundaryTests::lowestAndHighestCost);
        sentence("15 the phrase is empty afterwards", BoundaryTests::phraseIsEmptyAfterwards);
        sentence("15 also when this throws", BoundaryTests::phraseIsEmptyAfterAThrow);
        sentence("15 NoSuchElementException: no such dictionary", BoundaryTests::correctRefusesNoDictionary);
        sentence("15 IllegalStateException: the phrase is empty", BoundaryTests::correctRefusesEmptyPhrase);
        sentence("16 Word k of the phrase that was corrected last", BoundaryTests::correctedLast);
        sentence("16 IndexOutOfBoundsException: there is none", BoundaryTests::correctedRefuses);
    }

    // What it is

    private static void all512CallsAreAnswered() {
        SuggestDesk builds = desk("a 1");
        for (int call = 2; call <= 512; call++) {
            due("build at call " + call, builds.build(), call - 1);
        }
        SuggestDesk learns = new SuggestDesk();
        for (int call = 1; call <= 512; call++) {
            due("learn at call " + call, learns.learn(A, A), call);
        }
        SuggestDesk holds = built("a 1");
        for (int pair = 0; pair < 255; pair++) {
            due("hold " + pair, holds.hold(), 1);
            due("release " + pair, holds.release(1), true);
        }
        SuggestDesk drops = new SuggestDesk();
        for (int pair = 0; pair < 256; pair++) {
            due("word " + pair, drops.word(twoLetters(pair % 100), 1), 1);
            due("drop " + pair, drops.drop(twoLetters(pair % 100)), true);
        }
    }

    // Terms: words and weights

    private static void wordsAtTheEdges() {
        for (String word : WORDS) {
            SuggestDesk desk = new SuggestDesk();
            long told = number(word);
            due("word " + word, outcome(() -> desk.word(told, 1)), 1);
            due("build of " + word, outcome(desk::build), 1);
            due("cost " + word, outcome(() -> desk.cost(1, told)), 9998);
            due("complete " + word, outcome(() -> desk.complete(1, told, 1)), 1);
            given(desk, word);
            due("near " + word, outcome(() -> desk.near(1, told, 0)), 1);
            given(desk, word);
            due("distance " + word, outcome(() -> desk.distance(told, told)), 0);
            due("learn " + word, outcome(() -> desk.learn(told, told)), 1);
            due("say " + word, outcome(() -> desk.say(told)), 1);
            due("correct " + word, outcome(() -> desk.correct(1)), 9998);
            corrected(desk, word);
            due("drop " + word, outcome(() -> desk.drop(told)), true);
        }
    }

    /** Words that differ only in their first letter differ above the lowest 32 bits. */
    private static void wordsKeepAllBytes() {
        SuggestDesk desk = built("abcdefgh 1", "bbcdefgh 2", "bcdefgh 3", "efgh 4");
        looks(desk, 1, 4, 10, 12);
        due("8 letters", desk.cost(1, number("abcdefgh")), 9998);
        due("another first letter", desk.cost(1, number("bbcdefgh")), 9997);
        due("without the first letter", desk.cost(1, number("bcdefgh")), 9996);
        due("the lowest 4 letters", desk.cost(1, number("efgh")), 9995);
        due("a is 97", desk.distance(97, number("a")), 0);
        due("j is 106", desk.distance(106, number("j")), 0);
        due("ab is 97 * 256 + 98", desk.distance(97 * 256 + 98, number("ab")), 0);
    }

    private static void wordsInOrder() {
        String[] order = {"a", "aa", "aaaaaaaa", "aaaaaaab", "aaj", "ab", "aj", "b", "ba", "i", "ijjjjjjj", "j", "jj"};
        SuggestDesk forward = new SuggestDesk();
        SuggestDesk backward = new SuggestDesk();
        for (int i = 0; i < order.length; i++) {
            forward.word(number(order[i]), 5);
            backward.word(number(order[order.length - 1 - i]), 5);
        }
        forward.build();
        backward.build();
        forward.complete(1, 0, 24);
        given(forward, order);
        backward.complete(1, 0, 24);
        given(backward, order);
    }

    private static void weightsAtTheEdges() {
        SuggestDesk desk = built("a 0", "b 1", "c 9998", "d 9999");
        due("cost of weight 0", desk.cost(1, number("a")), 9999);
        due("cost of weight 1", desk.cost(1, number("b")), 9998);
        due("cost of weight 9998", desk.cost(1, number("c")), 1);
        due("cost of weight 9999", desk.cost(1, number("d")), 0);
    }

    // Terms: the draft and dictionaries

    private static void draftOf24() {
        SuggestDesk desk = new SuggestDesk();
        fill(desk, 24);
        desk.build();
        due("words", desk.look(1, 0), 24);
        for (int i = 0; i < 24; i++) {
            due("cost " + i, desk.cost(1, twoLetters(i)), 9999 - i);
        }
        refused("one more", STATE, () -> desk.word(twoLetters(24), 1));
    }

    private static void draftHoldsEachOnce() {
        SuggestDesk desk = new SuggestDesk();
        due("first", desk.word(A, 1), 1);
        due("with the same weight", desk.word(A, 1), 1);
        due("with another weight", desk.word(A, 2), 1);
        desk.build();
        due("words", desk.look(1, 0), 1);
        due("goes", desk.drop(A), true);
        due("goes once", desk.drop(A), false);
    }

    private static void dictionaryKeepsItsWords() {
        SuggestDesk desk = built("a 1", "b 2");
        desk.word(A, 9);
        desk.drop(number("b"));
        desk.word(number("c"), 3);
        due("weight", desk.cost(1, A), 9998);
        due("word", desk.cost(1, number("b")), 9997);
        refused("not yet", NONE, () -> desk.cost(1, number("c")));
        looks(desk, 1, 2, 2, 2);
        due("all", desk.complete(1, 0, 24), 2);
        given(desk, "b", "a");
    }

    private static void draftStaysBehindBuild() {
        SuggestDesk desk = built("a 1", "b 2");
        due("another one", desk.word(number("c"), 3), 3);
        due("build again", desk.build(), 2);
        due("words", desk.look(2, 0), 3);
        due("the first word", desk.cost(2, A), 9998);
        due("drop", desk.drop(A), true);
    }

    private static void numbersOfDictionaries() {
        SuggestDesk desk = desk("a 1");
        for (int number = 1; number <= 5; number++) {
            int made = number;
            due("build", desk.build(), made);
            due("it is there", desk.look(made, 0), 1);
            refused("the next is not", NONE, () -> desk.look(made + 1, 0));
            refused("the one before is not", NONE, () -> desk.look(made - 1, 0));
        }
        due("the current one", desk.hold(), 5);
    }

    private static void heldAsLongAsReaders() {
        SuggestDesk desk = built("a 1");
        desk.hold();
        desk.hold();
        desk.build();
        desk.build();
        due("two readers", desk.look(1, 3), 2);
        desk.release(1);
        due("one reader", desk.look(1, 3), 1);
        desk.release(1);
        refused("no reader", NONE, () -> desk.look(1, 3));
        refused("never a reader", NONE, () -> desk.look(2, 3));
        due("the current one without a reader", desk.look(3, 3), 0);
    }

    private static void threeAreThere() {
        SuggestDesk desk = threeHeld();
        for (int number = 1; number <= 3; number++) {
            due("words of " + number, desk.look(number, 0), number);
            due("readers of " + number, desk.look(number, 3), 1);
            due("all of " + number, desk.complete(number, 0, 24), number);
        }
        refused("a fourth", STATE, desk::build);
        refused("no fourth", NONE, () -> desk.look(4, 0));
    }

    // Terms: the automaton

    private static void smallestAutomata() {
        looks(built("a 1"), 1, 1, 2, 1);
        looks(built("aa 1"), 1, 1, 3, 2);
        looks(built("a 1", "aa 1"), 1, 2, 3, 2);
        looks(built("a 1", "b 1"), 1, 2, 2, 2);
        looks(built("abcdefgh 1"), 1, 1, 9, 8);
        looks(built("aaaaaaaa 1"), 1, 1, 9, 8);
        // Behind each of the letters a .. j the same 7 letters: they are written but once.
        SuggestDesk tenFirstLetters = new SuggestDesk();
        for (char first = 'a'; first <= 'j'; first++) {
            tenFirstLetters.word(number(first + "bcdefgh"), 9999);
        }
        tenFirstLetters.build();
        looks(tenFirstLetters, 1, 10, 9, 17);
        // Each beginning of a .. a has another number of letters behind it.
        looks(built("a 7", "aa 7", "aaa 7", "aaaa 7", "aaaaa 7", "aaaaaa 7", "aaaaaaa 7", "aaaaaaaa 7"), 1, 8, 9, 8);
    }

    private static void largestAutomaton() {
        SuggestDesk desk = new SuggestDesk();
        for (int i = 0; i < 24; i++) {
            char first = (char) ('a' + i % 10);
            char second = (char) ('a' + i / 10);
            desk.word(number("" + first + second + "aaaa" + second + first), i * 400);
        }
        desk.build();
        // The empty beginning, 10 of 1 letter, 24 of each of 2 to 6 letters, 10 last letters, the end.
        looks(desk, 1, 24, 1 + 10 + 5 * 24 + 10 + 1, 10 + 24 + 5 * 24 + 10);
    }

    private static void statesBesideCosts() {
        looks(built("ac 0", "ad 1", "bc 9998", "bd 9999"), 1, 4, 3, 4);
        looks(built("ac 0", "ad 1", "bc 9997", "bd 9999"), 1, 4, 4, 6);
        looks(built("ac 0", "ad 9999", "bc 0", "bd 9999"), 1, 4, 3, 4);
        looks(built("ac 0", "ad 9999", "bc 9999", "bd 0"), 1, 4, 4, 6);
        // One word behind a beginning is always 0 above the lowest.
        looks(built("ac 0", "bc 9999"), 1, 2, 3, 3);
        // The whole word's cost counts beside those behind it.
        looks(built("a 0", "ac 1", "b 9998", "bc 9999"), 1, 4, 3, 3);
        looks(built("a 0", "ac 1", "b 9999", "bc 9998"), 1, 4, 4, 4);
    }

    // Terms: completing, distances and near words

    private static void beginningsAtTheEdges() {
        SuggestDesk desk = built("abcdefgh 3", "abcdefg 2", "abcdefgj 1", "b 0");
        due("0 letters", desk.complete(1, 0, 24), 4);
        due("1 letter", desk.complete(1, A, 24), 3);
        due("7 letters", desk.complete(1, number("abcdefg"), 24), 3);
        given(desk, "abcdefgh", "abcdefg", "abcdefgj");
        due("8 letters", desk.complete(1, number("abcdefgj"), 24), 1);
        given(desk, "abcdefgj");
        due("8 letters that none begins with", desk.complete(1, number("abcdefgi"), 24), 0);
        given(desk);
        due("longer than the word", desk.complete(1, number("bb"), 24), 0);
        given(desk);
        due("an ending is no beginning", desk.complete(1, number("h"), 24), 0);
    }

    private static void completeOrder() {
        SuggestDesk desk = built("b 7", "ab 7", "a 7", "c 8", "aa 6", "d 9999", "aj 0");
        desk.complete(1, 0, 24);
        given(desk, "d", "c", "a", "ab", "b", "aa", "aj");
    }

    private static void completeCutsOff() {
        SuggestDesk desk = built("b 7", "ab 7", "a 7", "c 8");
        String[] order = {"c", "a", "ab", "b"};
        for (int n = 0; n <= 4; n++) {
            due("at most " + n, desk.complete(1, 0, n), n);
            given(desk, Arrays.copyOf(order, n));
        }
        due("more than there are", desk.complete(1, 0, 5), 4);
        given(desk, order);
        due("more than begin so", desk.complete(1, A, 3), 2);
        given(desk, "a", "ab");
    }

    private static void distancesAtTheEdges() {
        for (int length = 1; length <= 8; length++) {
            distanceDue(repeated('a', length), repeated('a', length), 0);
            distanceDue("a", repeated('b', length), length);
            distanceDue("a", repeated('a', length), length - 1);
            distanceDue(repeated('a', length), repeated('b', 8), 8);
            distanceDue(repeated('a', length), repeated('a', 8), 8 - length);
        }
        distanceDue("abcdefgh", "bcdefghi", 2);
        distanceDue("abcdefgh", "abcdefgj", 1);
        distanceDue("abcdefgh", "jbcdefgh", 1);
    }

    private static void distancesOfExchanges() {
        distanceDue("ab", "ba", 1);
        distanceDue("abcdefgh", "bacdefgh", 1);
        distanceDue("abcdefgh", "abcdefhg", 1);
        distanceDue("abcdefgh", "badcfehg", 4);
        distanceDue("abc", "cba", 2);
        distanceDue("aab", "aba", 1);
        distanceDue("abd", "bac", 2);
        // Letters that are not beside one another are no exchange.
        distanceDue("acb", "bca", 2);
    }

    private static void noLetterChangedTwice() {
        distanceDue("ca", "abc", 3);
        distanceDue("ab", "bca", 3);
        distanceDue("abc", "bca", 2);
        distanceDue("abcd", "bdac", 4);
    }

    private static void nearUpToEachDistance() {
        SuggestDesk desk = built("abcd 0", "abce 1", "abef 2", "aefg 3", "efgh 4");
        due("up to 0", desk.near(1, number("abcd"), 0), 1);
        given(desk, "abcd");
        due("up to 1", desk.near(1, number("abcd"), 1), 2);
        given(desk, "abcd", "abce");
        due("up to 2", desk.near(1, number("abcd"), 2), 3);
        given(desk, "abcd", "abce", "abef");
        due("none at 0", desk.near(1, number("jjjj"), 0), 0);
        due("none up to 2", desk.near(1, number("jjjj"), 2), 0);
        given(desk);
    }

    private static void nearOrder() {
        SuggestDesk desk = built("ab 0", "aa 9998", "ac 9999", "ad 9998", "aj 0", "cc 9999", "cb 0");
        due("up to 2", desk.near(1, number("ab"), 2), 7);
        given(desk, "ab", "ac", "aa", "ad", "aj", "cb", "cc");
        // The highest cost comes before the lowest one a step farther, though that comes first in order.
        SuggestDesk steps = built("jj 0", "ij 0", "aj 9999", "aa 9999");
        due("up to 2", steps.near(1, number("jj"), 2), 4);
        given(steps, "jj", "aj", "ij", "aa");
    }

    // Terms: pairs and phrases

    private static void fortyPairs() {
        SuggestDesk desk = new SuggestDesk();
        for (int i = 0; i < 40; i++) {
            due("pair " + i, desk.learn(twoLetters(i), twoLetters(i + 1)), 1);
        }
        for (int i = 0; i < 40; i++) {
            due("pair " + i + " again", desk.learn(twoLetters(i), twoLetters(i + 1)), 2);
        }
        refused("one more", STATE, () -> desk.learn(twoLetters(40), twoLetters(41)));
    }

    private static void pairsAreApart() {
        SuggestDesk desk = new SuggestDesk();
        String[][] pairs = {
            {"a", "b"}, {"b", "a"}, {"a", "a"}, {"ab", "c"}, {"a", "bc"}, {"abcdefgh", "j"}, {"bbcdefgh", "j"},
            {"j", "abcdefgh"}, {"j", "bbcdefgh"}, {"efgh", "j"}, {"jjjjjjjj", "jjjjjjjj"}
        };
        for (String[] pair : pairs) {
            due("no dictionary has them", desk.learn(number(pair[0]), number(pair[1])), 1);
        }
        for (String[] pair : pairs) {
            due("each for itself", desk.learn(number(pair[0]), number(pair[1])), 2);
        }
    }

    private static void phrasesAtTheEdges() {
        SuggestDesk desk = built("a 9999", "bbbb 9998");
        corrects(desk, 1, "a", 0, "a");
        corrects(desk, 1, "bbbb a", 1, "bbbb", "a");
        corrects(desk, 1, "a bbbb a", 1, "a", "bbbb", "a");
        corrects(desk, 1, "bbbb bbbb a bbbb", 3, "bbbb", "bbbb", "a", "bbbb");
    }

    private static void candidatesUpToOne() {
        SuggestDesk desk = built("abcd 9999");
        corrects(desk, 1, "abcd", 0, "abcd");
        String[] oneChange = {"abc", "bcd", "abcde", "aabcd", "abed", "bacd", "abdc"};
        for (String said : oneChange) {
            corrects(desk, 1, said, 3000, "abcd");
        }
        String[] twoChanges = {"ab", "abef", "badc", "abcdef", "cabd"};
        for (String said : twoChanges) {
            corrects(desk, 1, said, 20000, said);
        }
    }

    /** Every word of the largest dictionary is a candidate for every word of the longest phrase. */
    private static void candidatesAtTheMost() {
        SuggestDesk desk = new SuggestDesk();
        String near = "a aa ba ca da ea fa ga ha ia ja ab ac ad ae af ag ah ai aj aab aac aad aae";
        for (String word : near.split(" ")) {
            desk.word(number(word), 10);
        }
        desk.build();
        due("words", desk.near(1, number("aa"), 1), 24);
        corrects(desk, 1, "aa aa aa aa", 4 * 9989, "aa", "aa", "aa", "aa");
        for (int times = 0; times < 5; times++) {
            desk.learn(number("ja"), number("ja"));
            desk.learn(number("ja"), A);
        }
        // Three times 2000 less do not outweigh four changes.
        corrects(desk, 1, "aa aa aa aa", 4 * 9989, "aa", "aa", "aa", "aa");
        desk.word(number("ja"), 2010);
        desk.build();
        corrects(desk, 2, "aa aa aa aa", 4 * (9989 - 2000 + 3000) - 3 * 2000, "ja", "ja", "ja", "ja");
    }

    private static void wordItself() {
        SuggestDesk desk = built("a 0");
        corrects(desk, 1, "bb", 20000, "bb");
        corrects(desk, 1, "jjjjjjjj", 20000, "jjjjjjjj");
        // Where there is a candidate the word itself is none, however dear the candidate is.
        desk.learn(number("b"), number("bb"));
        corrects(desk, 1, "b bb", 3000 + 9999 + 20000, "a", "bb");
        // Two that are themselves have learnt times as others have.
        desk.learn(number("bb"), number("cc"));
        corrects(desk, 1, "bb cc", 40000 - 400, "bb", "cc");
    }

    private static void changeAgainstCost() {
        SuggestDesk desk = built("ab 6999", "ac 9998", "ad 6998");
        due("3000 for the word itself", desk.cost(1, number("ab")), 3000);
        // 3000 against 3000 + 1, and 3001 against 3001: the first in order.
        corrects(desk, 1, "ab", 3000, "ab");
        corrects(desk, 1, "ad", 3001, "ac");
        corrects(desk, 1, "ac", 1, "ac");
        SuggestDesk cheaper = built("ab 6998", "ac 9999");
        corrects(cheaper, 1, "ab", 3000, "ac");
        SuggestDesk dearest = built("ab 0");
        corrects(dearest, 1, "ac", 3000 + 9999, "ab");
    }

    private static void learntTimesOfEachTwo() {
        SuggestDesk desk = built("a 9999", "bbbb 9999", "jjjjjjjj 9999");
        desk.learn(A, number("bbbb"));
        corrects(desk, 1, "a bbbb", -400, "a", "bbbb");
        corrects(desk, 1, "bbbb a", 0, "bbbb", "a");
        corrects(desk, 1, "a jjjjjjjj bbbb", 0, "a", "jjjjjjjj", "bbbb");
        desk.learn(number("bbbb"), A);
        corrects(desk, 1, "a bbbb a bbbb", -1200, "a", "bbbb", "a", "bbbb");
        // The two of the choice count, not the two that were said.
        desk.learn(number("b"), number("bbb"));
        corrects(desk, 1, "b bbb", 6000 - 400, "a", "bbbb");
        // One learnt time outweighs a cost that is 399 lower, and is even with one 400 lower.
        SuggestDesk less = built("a 9999", "b 9600", "eeee 9999");
        less.learn(number("b"), number("eeee"));
        corrects(less, 1, "c eeee", 3000 + 399 - 400, "b", "eeee");
        SuggestDesk even = built("a 9999", "b 9599", "eeee 9999");
        even.learn(number("b"), number("eeee"));
        corrects(even, 1, "c eeee", 3000, "a", "eeee");
        even.learn(number("eeee"), number("b"));
        even.learn(number("eeee"), number("b"));
        corrects(even, 1, "eeee c", 3000 + 400 - 800, "eeee", "b");
    }

    private static void fiveTimesAreReckoned() {
        SuggestDesk desk = built("a 9999", "eeee 9999");
        for (int times = 0; times <= 7; times++) {
            corrects(desk, 1, "a eeee", -400 * Math.min(times, 5), "a", "eeee");
            due("all are counted", desk.learn(A, number("eeee")), times + 1);
        }
        // Each two have their own 5 times, also the same two again.
        for (int times = 0; times < 6; times++) {
            desk.learn(number("eeee"), A);
        }
        corrects(desk, 1, "a eeee a eeee", -6000, "a", "eeee", "a", "eeee");
    }

    private static void sameCostInOrder() {
        SuggestDesk desk = built("j 5", "i 5", "ii 5", "ia 5");
        corrects(desk, 1, "a", 3000 + 9994, "i");
        corrects(desk, 1, "ib", 3000 + 9994, "i");
        corrects(desk, 1, "a a a a", 4 * (3000 + 9994), "i", "i", "i", "i");
        // The first word decides before the second one.
        desk.learn(number("i"), number("j"));
        desk.learn(number("j"), number("i"));
        corrects(desk, 1, "a a", 2 * (3000 + 9994) - 400, "i", "j");
        desk.learn(number("j"), number("j"));
        corrects(desk, 1, "a a a", 3 * (3000 + 9994) - 800, "i", "j", "i");
    }

    // Promise 1

    private static void newDraft() {
        refused("nothing to build of", STATE, () -> new SuggestDesk().build());
        due("nothing to drop", new SuggestDesk().drop(A), false);
        due("the first word", new SuggestDesk().word(A, 0), 1);
        SuggestDesk full = new SuggestDesk();
        fill(full, 24);
        due("another object's draft is empty", new SuggestDesk().word(A, 0), 1);
    }

    private static void newDesk() {
        SuggestDesk desk = new SuggestDesk();
        refused("none to hold", STATE, desk::hold);
        for (int number = -1; number <= 4; number++) {
            int no = number;
            refused("look " + no, NONE, () -> desk.look(no, 0));
            refused("cost " + no, NONE, () -> desk.cost(no, A));
            refused("complete " + no, NONE, () -> desk.complete(no, 0, 1));
            refused("near " + no, NONE, () -> desk.near(no, A, 1));
            refused("correct " + no, NONE, () -> desk.correct(no));
            refused("release " + no, ARGUMENT, () -> desk.release(no));
        }
        given(desk);
    }

    private static void newPairs() {
        SuggestDesk desk = built("a 9999");
        corrects(desk, 1, "a a a a", 0, "a", "a", "a", "a");
        for (int i = 0; i < 40; i++) {
            due("room for pair " + i, desk.learn(A, twoLetters(i)), 1);
        }
    }

    private static void newPhrase() {
        SuggestDesk desk = built("a 9999");
        refused("nothing said", STATE, () -> desk.correct(1));
        corrected(desk);
        for (int i = 1; i <= 4; i++) {
            due("room for word " + i, desk.say(A), i);
        }
    }

    // Promise 2

    private static void wordCounts() {
        SuggestDesk desk = new SuggestDesk();
        fill(desk, 24);
        for (int left = 23; left >= 0; left--) {
            due("drop", desk.drop(twoLetters(left)), true);
            due("one more than were left", desk.word(number("jj"), 1), left + 1);
            due("drop", desk.drop(number("jj")), true);
        }
    }

    private static void wordChangesWeight() {
        SuggestDesk desk = desk("a 1", "b 2", "c 3");
        due("to 9999", desk.word(A, 9999), 3);
        due("to 0", desk.word(number("c"), 0), 3);
        desk.build();
        due("0", desk.cost(1, A), 0);
        due("the other one", desk.cost(1, number("b")), 9997);
        due("9999", desk.cost(1, number("c")), 9999);
        SuggestDesk full = new SuggestDesk();
        fill(full, 24);
        due("the first of 24", full.word(twoLetters(0), 9999), 24);
        due("the last of 24", full.word(twoLetters(23), 9998), 24);
        full.build();
        due("the first's cost", full.cost(1, twoLetters(0)), 0);
        due("the last's cost", full.cost(1, twoLetters(23)), 1);
    }

    private static void wordRefusesNoWords() {
        refuseNoWords((desk, no) -> desk.word(no, 1), ARGUMENT);
        refuseNoWords((desk, no) -> desk.word(no, -1), ARGUMENT);
    }

    private static void wordRefusesNoWeights() {
        due("weight 0", new SuggestDesk().word(A, 0), 1);
        due("weight 9999", new SuggestDesk().word(A, 9999), 1);
        int[] noWeights = {-1, 10000, -9999, 65536, Integer.MIN_VALUE, Integer.MAX_VALUE};
        for (int no : noWeights) {
            refused("weight " + no, ARGUMENT, () -> new SuggestDesk().word(A, no));
            refused("weight " + no + " for one that is there", ARGUMENT, () -> desk("a 1").word(A, no));
        }
    }

    private static void wordRefusesThe25th() {
        SuggestDesk desk = new SuggestDesk();
        fill(desk, 24);
        refused("the 25th", STATE, () -> desk.word(number("jj"), 1));
        refused("before the first", STATE, () -> desk.word(A, 1));
        refused("the 25th again", STATE, () -> desk.word(number("jj"), 1));
        // What is no word or weight is told before that the draft is full, as the face names it first.
        refused("no word", ARGUMENT, () -> desk.word(0, 1));
        refused("no weight", ARGUMENT, () -> desk.word(number("jj"), 10000));
        due("one goes", desk.drop(twoLetters(7)), true);
        due("room for one", desk.word(number("jj"), 1), 24);
        refused("and for no other", STATE, () -> desk.word(twoLetters(7), 1));
    }

    // Promise 3

    private static void dropOfWhatIsNotThere() {
        SuggestDesk desk = desk("ab 1", "abcdefgh 2");
        String[] others = {"a", "b", "ba", "aba", "abcdefg", "abcdefgj", "bbcdefgh", "bcdefgh", "efgh", "j"};
        for (String other : others) {
            due(other, desk.drop(number(other)), false);
        }
        due("both are there: a third", desk.word(A, 1), 3);
        for (long no : NO_WORDS) {
            due("no word " + no, outcome(() -> desk("a 1").drop(no)), false);
        }
        due("from an empty draft", new SuggestDesk().drop(A), false);
    }

    private static void dropAtTheEdges() {
        int[] places = {0, 1, 12, 22, 23};
        for (int place : places) {
            SuggestDesk desk = new SuggestDesk();
            fill(desk, 24);
            due("drop " + place, desk.drop(twoLetters(place)), true);
            due("again " + place, desk.drop(twoLetters(place)), false);
            desk.build();
            due("23 stay", desk.look(1, 0), 23);
            for (int i = 0; i < 24; i++) {
                Object want = i == place ? NONE : (Object) (9999 - i);
                int at = i;
                due("word " + i, outcome(() -> desk.cost(1, twoLetters(at))), want);
            }
        }
        SuggestDesk only = desk("a 1");
        due("the only one", only.drop(A), true);
        refused("the draft is empty", STATE, only::build);
        due("it comes again", only.word(A, 1), 1);
    }

    // Promise 4

    private static void buildRefusesEmptyDraft() {
        SuggestDesk desk = new SuggestDesk();
        refused("new", STATE, desk::build);
        desk.word(A, 1);
        due("one word is enough", desk.build(), 1);
        desk.drop(A);
        refused("all words went", STATE, desk::build);
        due("the current one stays", desk.look(1, 0), 1);
        desk.word(A, 1);
        due("no number was lost", desk.build(), 2);
    }

    private static void buildRefusesAFourth() {
        SuggestDesk desk = threeHeld();
        refused("3 would stay", STATE, desk::build);
        refused("again", STATE, desk::build);
        for (int number = 1; number <= 3; number++) {
            due("there is still " + number, desk.look(number, 3), 1);
        }
        due("the current one is the same", desk.hold(), 3);
        due("2 goes", desk.release(2), false);
        due("no number was lost", desk.build(), 4);
        due("1 is there", desk.look(1, 0), 1);
        due("3 is there", desk.look(3, 0), 3);
        due("4 is there", desk.look(4, 0), 3);
    }

    private static void buildInPlaceOfUnheld() {
        SuggestDesk desk = threeHeld();
        due("nobody holds the current one", desk.release(3), true);
        due("so 2 would stay", desk.build(), 4);
        refused("3 went", NONE, () -> desk.look(3, 0));
        due("again", desk.build(), 5);
        refused("4 went", NONE, () -> desk.look(4, 0));
        due("1 stayed", desk.look(1, 3), 1);
        due("2 stayed", desk.look(2, 3), 1);
        due("5 is held", desk.hold(), 5);
        refused("now 3 would stay", STATE, desk::build);
    }

    // Promise 5

    private static void holdRefusesWithoutAny() {
        SuggestDesk desk = desk("a 1");
        refused("only a draft", STATE, desk::hold);
        desk.build();
        due("the first one", desk.hold(), 1);
    }

    private static void holdRefusesTheTenth() {
        SuggestDesk desk = desk("a 1");
        for (int number = 1; number <= 3; number++) {
            desk.build();
            for (int reader = 1; reader <= 9; reader++) {
                due("hold", desk.hold(), number);
                due("readers", desk.look(number, 3), reader);
            }
            refused("the tenth of " + number, STATE, desk::hold);
            due("9 readers", desk.look(number, 3), 9);
        }
        due("one of the first goes", desk.release(1), true);
        refused("that makes no room at the current one", STATE, desk::hold);
        due("one of the current one goes", desk.release(3), true);
        due("that makes room", desk.hold(), 3);
        refused("for one", STATE, desk::hold);
    }

    // Promise 6

    private static void releaseTellsWhetherThere() {
        SuggestDesk desk = built("a 1");
        desk.hold();
        desk.hold();
        due("the current one with a reader", desk.release(1), true);
        due("the current one without", desk.release(1), true);
        due("it is there", desk.look(1, 3), 0);
        for (int reader = 0; reader < 9; reader++) {
            desk.hold();
        }
        desk.build();
        for (int left = 8; left >= 1; left--) {
            due("readers are left", desk.release(1), true);
            due("as many", desk.look(1, 3), left);
        }
        due("the last one", desk.release(1), false);
        refused("it went", NONE, () -> desk.look(1, 3));
        due("the current one stays", desk.look(2, 3), 0);
    }

    private static void releaseRefuses() {
        SuggestDesk desk = built("a 1");
        refused("never held", ARGUMENT, () -> desk.release(1));
        desk.hold();
        due("held", desk.release(1), true);
        refused("held no more", ARGUMENT, () -> desk.release(1));
        desk.hold();
        desk.build();
        due("the last reader", desk.release(1), false);
        refused("it went", ARGUMENT, () -> desk.release(1));
        int[] never = {0, 3, -1, -2, Integer.MIN_VALUE, Integer.MAX_VALUE};
        for (int no : never) {
            refused("never made " + no, ARGUMENT, () -> desk.release(no));
        }
        desk.hold();
        refused("a reader of another one", ARGUMENT, () -> desk.release(1));
        due("no reader was lost", desk.look(2, 3), 1);
    }

    // Promise 7

    private static void lookAtTheEdges() {
        SuggestDesk desk = built("ab 1", "cb 2");
        desk.hold();
        due("what 0", desk.look(1, 0), 2);
        due("what 1", desk.look(1, 1), 3);
        due("what 2", desk.look(1, 2), 3);
        due("what 3", desk.look(1, 3), 1);
        desk.word(number("cbb"), 2);
        desk.build();
        due("words of the new one", desk.look(2, 0), 3);
        due("states of the new one", desk.look(2, 1), 5);
        due("arcs of the new one", desk.look(2, 2), 5);
        due("readers of the new one", desk.look(2, 3), 0);
        looks(desk, 1, 2, 3, 3);
    }

    private static void lookRefusesNoDictionary() {
        for (int what = 0; what <= 3; what++) {
            int asked = what;
            refuseNoDictionaries((desk, no) -> desk.look((int) no, asked));
        }
        // That there is none is told before what there is not, as the face names it first.
        refuseNoDictionaries((desk, no) -> desk.look((int) no, 4));
    }

    private static void lookRefusesNoWhat() {
        SuggestDesk desk = built("a 1");
        int[] noWhat = {-1, 4, 5, -4, Integer.MIN_VALUE, Integer.MAX_VALUE};
        for (int what : noWhat) {
            refused("what " + what, ARGUMENT, () -> desk.look(1, what));
        }
    }

    // Promise 8

    private static void costRefusesNoDictionary() {
        refuseNoDictionaries((desk, no) -> desk.cost((int) no, A));
        refuseNoDictionaries((desk, no) -> desk.cost((int) no, 0));
    }

    private static void costRefusesOtherWords() {
        SuggestDesk desk = built("ab 1", "abcdefgh 2");
        due("the shorter one", desk.cost(1, number("ab")), 9998);
        due("the longer one", desk.cost(1, number("abcdefgh")), 9997);
        String[] others = {"a", "b", "ba", "abc", "abcdefg", "abcdefgj", "bbcdefgh", "bcdefgh", "efgh", "j"};
        for (String other : others) {
            refused(other, NONE, () -> desk.cost(1, number(other)));
        }
        desk.word(A, 1);
        refused("only in the draft", NONE, () -> desk.cost(1, A));
        refuseNoWords((one, no) -> one.cost(1, no), NONE);
    }

    // Promise 9

    private static void completeOfNoLetters() {
        SuggestDesk desk = built("a 1", "j 2", "abcdefgh 3");
        due("0", desk.complete(1, 0, 24), 3);
        given(desk, "abcdefgh", "j", "a");
    }

    private static void completeUpToN() {
        SuggestDesk desk = new SuggestDesk();
        fill(desk, 24);
        desk.build();
        int[] all = {0, 1, 2, 23, 24};
        for (int n : all) {
            due("n " + n, desk.complete(1, 0, n), n);
            for (int k = 0; k < n; k++) {
                due("given " + k, desk.given(k), twoLetters(23 - k));
            }
            refused("no more than n " + n, INDEX, () -> desk.given(n));
        }
        due("24 of 10", desk.complete(1, A, 24), 10);
        due("10 of 10", desk.complete(1, A, 10), 10);
        due("9 of 10", desk.complete(1, A, 9), 9);
    }

    private static void completeRefusesNoBeginnings() {
        for (long no : NO_WORDS) {
            if (no != 0) {
                refused("beginning " + no, ARGUMENT, () -> built("a 1").complete(1, no, 1));
                refused("beginning " + no + " of no dictionary", ARGUMENT, () -> built("a 1").complete(2, no, 1));
            }
        }
    }

    private static void completeRefusesOtherN() {
        SuggestDesk desk = built("a 1");
        due("n 0", desk.complete(1, 0, 0), 0);
        due("n 24", desk.complete(1, 0, 24), 1);
        int[] noN = {-1, 25, -24, 256, Integer.MIN_VALUE, Integer.MAX_VALUE};
        for (int n : noN) {
            refused("n " + n, ARGUMENT, () -> desk.complete(1, 0, n));
            refused("n " + n + " of no dictionary", ARGUMENT, () -> desk.complete(2, 0, n));
            refused("n " + n + " of none that begin so", ARGUMENT, () -> desk.complete(1, number("j"), n));
        }
    }

    private static void completeRefusesNoDictionary() {
        refuseNoDictionaries((desk, no) -> desk.complete((int) no, 0, 24));
        refuseNoDictionaries((desk, no) -> desk.complete((int) no, A, 0));
    }

    // Promise 10

    private static void nearCounts() {
        SuggestDesk desk = new SuggestDesk();
        fill(desk, 24);
        desk.build();
        due("itself", desk.near(1, number("aa"), 0), 1);
        due("with one letter of aa", desk.near(1, number("aa"), 1), 12);
        due("all of two letters", desk.near(1, number("aa"), 2), 24);
        due("the last of 24", desk.given(23), twoLetters(11));
        refused("no 25th", INDEX, () -> desk.given(24));
        due("a word of 1 letter", desk.near(1, A, 1), 12);
        due("a word of 3 letters", desk.near(1, number("jaj"), 1), 1);
        given(desk, "aj");
        due("a word of 4 letters", desk.near(1, number("jajd"), 2), 2);
        given(desk, "aj", "ad");
        due("a word of 8 letters", desk.near(1, number("aaaaaaaa"), 2), 0);
    }

    private static void nearRefusesNoWords() {
        refuseNoWords((desk, no) -> desk.near(1, no, 1), ARGUMENT);
        refuseNoWords((desk, no) -> desk.near(2, no, 1), ARGUMENT);
    }

    private static void nearRefusesOtherDistances() {
        SuggestDesk desk = built("a 1");
        for (int far = 0; far <= 2; far++) {
            due("distance " + far, desk.near(1, A, far), 1);
        }
        int[] noDistance = {-1, 3, 8, -2, Integer.MIN_VALUE, Integer.MAX_VALUE};
        for (int far : noDistance) {
            refused("distance " + far, ARGUMENT, () -> desk.near(1, A, far));
            refused("distance " + far + " of no dictionary", ARGUMENT, () -> desk.near(2, A, far));
        }
    }

    private static void nearRefusesNoDictionary() {
        for (int far = 0; far <= 2; far++) {
            int asked = far;
            refuseNoDictionaries((desk, no) -> desk.near((int) no, A, asked));
        }
    }

    // Promise 11

    private static void givenRefuses() {
        SuggestDesk desk = built("a 1", "b 2", "jjj 3");
        given(desk);
        desk.complete(1, 0, 24);
        given(desk, "jjj", "b", "a");
        int[] none = {-1, 3, 23, 24, 25, Integer.MIN_VALUE, Integer.MAX_VALUE};
        for (int k : none) {
            refused("given " + k, INDEX, () -> desk.given(k));
        }
        desk.complete(1, 0, 1);
        given(desk, "jjj");
        desk.complete(1, 0, 0);
        given(desk);
        desk.near(1, A, 1);
        given(desk, "a", "b");
        desk.near(1, number("cccccccc"), 2);
        given(desk);
    }

    private static void givenByTheLast() {
        SuggestDesk desk = built("a 1", "b 2", "jjj 3");
        desk.hold();
        desk.complete(1, 0, 24);
        desk.near(1, A, 0);
        given(desk, "a");
        desk.near(1, A, 1);
        desk.complete(1, number("j"), 24);
        given(desk, "jjj");
        // What was given stays, whatever becomes of the draft and the dictionary.
        desk.drop(number("jjj"));
        desk.build();
        due("the dictionary goes", desk.release(1), false);
        given(desk, "jjj");
        desk.complete(2, 0, 24);
        given(desk, "b", "a");
    }

    private static void nothingGivenAfterAThrow() {
        SuggestDesk desk = built("a 1", "b 2");
        Call[] throwing = {
            () -> desk.complete(1, 96, 2), () -> desk.complete(1, 0, -1), () -> desk.complete(1, 0, 25),
            () -> desk.complete(2, 0, 2), () -> desk.near(1, 0, 1), () -> desk.near(1, A, -1),
            () -> desk.near(1, A, 3), () -> desk.near(2, A, 1)
        };
        for (int i = 0; i < throwing.length; i++) {
            desk.complete(1, 0, 24);
            given(desk, "b", "a");
            due("it throws: " + i, outcome(throwing[i]) instanceof Class, true);
            given(desk);
            desk.near(1, A, 1);
            given(desk, "a", "b");
            due("it throws: " + i, outcome(throwing[i]) instanceof Class, true);
            given(desk);
        }
    }

    // Promise 12

    private static void distanceOfEdgeWords() {
        for (String a : WORDS) {
            for (String b : WORDS) {
                int least = Math.abs(a.length() - b.length());
                int most = Math.max(a.length(), b.length());
                int got = new SuggestDesk().distance(number(a), number(b));
                due(a + " to " + b + " in its bounds", got >= least && got <= most, true);
                due(a + " to " + b + " is 0 for the same alone", got == 0, a.equals(b));
                distanceDue(b, a, got);
            }
        }
        // Longer words measured before leave nothing behind.
        SuggestDesk desk = new SuggestDesk();
        due("the longest", desk.distance(number("aaaaaaaa"), number("bbbbbbbb")), 8);
        due("then the shortest", desk.distance(A, A), 0);
        due("then others", desk.distance(number("ab"), number("ba")), 1);
    }

    private static void distanceRefusesNoWords() {
        refuseNoWords((desk, no) -> desk.distance(no, A), ARGUMENT);
        refuseNoWords((desk, no) -> desk.distance(A, no), ARGUMENT);
        refuseNoWords((desk, no) -> desk.distance(no, no), ARGUMENT);
    }

    // Promise 13

    private static void learnCounts() {
        SuggestDesk desk = new SuggestDesk();
        for (int times = 1; times <= 130; times++) {
            due("learn", desk.learn(A, number("b")), times);
        }
        due("the other way round", desk.learn(number("b"), A), 1);
        due("behind itself", desk.learn(A, A), 1);
    }

    private static void learnRefusesNoWords() {
        refuseNoWords((desk, no) -> desk.learn(no, A), ARGUMENT);
        refuseNoWords((desk, no) -> desk.learn(A, no), ARGUMENT);
        refuseNoWords((desk, no) -> desk.learn(no, no), ARGUMENT);
    }

    private static void learnRefusesThe41st() {
        SuggestDesk desk = new SuggestDesk();
        for (int i = 0; i < 40; i++) {
            due("pair " + i, desk.learn(A, twoLetters(i)), 1);
        }
        refused("the 41st", STATE, () -> desk.learn(A, twoLetters(40)));
        refused("the 41st again", STATE, () -> desk.learn(A, twoLetters(40)));
        refused("one of the 40 the other way round", STATE, () -> desk.learn(twoLetters(0), A));
        // What is no word is told before that there is no room, as the face names it first.
        refused("no first word", ARGUMENT, () -> desk.learn(0, A));
        refused("no second word", ARGUMENT, () -> desk.learn(A, 0));
        due("the first of the 40", desk.learn(A, twoLetters(0)), 2);
        due("the last of the 40", desk.learn(A, twoLetters(39)), 2);
    }

    // Promise 14

    private static void sayCounts() {
        SuggestDesk desk = built("a 9999");
        for (int words = 1; words <= 4; words++) {
            for (int i = 1; i <= words; i++) {
                due("say", desk.say(A), i);
            }
            due("correct", desk.correct(1), 0);
        }
    }

    private static void sayRefusesNoWords() {
        refuseNoWords((desk, no) -> desk.say(no), ARGUMENT);
        for (long no : NO_WORDS) {
            SuggestDesk desk = new SuggestDesk();
            desk.say(A);
            refused("no word " + no, ARGUMENT, () -> desk.say(no));
            due("it was not said", desk.say(A), 2);
        }
    }

    private static void sayRefusesTheFifth() {
        SuggestDesk desk = built("a 9999", "bbbb 9998");
        for (int i = 1; i <= 4; i++) {
            due("say", desk.say(A), i);
        }
        refused("the fifth", STATE, () -> desk.say(number("bbbb")));
        refused("again", STATE, () -> desk.say(number("bbbb")));
        // What is no word is told before that there are 4, as the face names it first.
        refused("no word", ARGUMENT, () -> desk.say(0));
        due("the 4 that were said", desk.correct(1), 0);
        corrected(desk, "a", "a", "a", "a");
        due("room again", desk.say(A), 1);
    }

    // Promise 15

    private static void lowestAndHighestCost() {
        SuggestDesk desk = built("a 9999", "bbbb 0");
        corrects(desk, 1, "jjjjjjjj jjjjjjjj jjjjjjjj jjjjjjjj", 80000,
            "jjjjjjjj", "jjjjjjjj", "jjjjjjjj", "jjjjjjjj");
        corrects(desk, 1, "bbb bbb bbb bbb", 4 * 12999, "bbbb", "bbbb", "bbbb", "bbbb");
        corrects(desk, 1, "a a a a", 0, "a", "a", "a", "a");
        for (int times = 0; times < 6; times++) {
            desk.learn(A, A);
        }
        corrects(desk, 1, "a a a a", -6000, "a", "a", "a", "a");
        corrects(desk, 1, "a", 0, "a");
    }

    private static void phraseIsEmptyAfterwards() {
        SuggestDesk desk = built("a 9999");
        for (int words = 1; words <= 4; words++) {
            for (int i = 0; i < words; i++) {
                desk.say(A);
            }
            due("correct", desk.correct(1), 0);
            refused("no phrase is left", STATE, () -> desk.correct(1));
        }
        due("the next phrase", desk.say(A), 1);
    }

    private static void phraseIsEmptyAfterAThrow() {
        for (int words = 1; words <= 4; words++) {
            SuggestDesk desk = built("a 9999");
            for (int i = 0; i < words; i++) {
                desk.say(A);
            }
            refused("no such dictionary", NONE, () -> desk.correct(2));
            refused("no phrase is left", STATE, () -> desk.correct(1));
            due("the next phrase", desk.say(number("b")), 1);
            due("has one word", desk.correct(1), 3000);
            corrected(desk, "a");
        }
        SuggestDesk none = new SuggestDesk();
        none.say(A);
        refused("no dictionary at all", NONE, () -> none.correct(1));
        due("the next phrase", none.say(A), 1);
    }

    private static void correctRefusesNoDictionary() {
        refuseNoDictionaries((desk, no) -> {
            desk.say(A);
            return desk.correct((int) no);
        });
        // That there is none is told before that the phrase is empty, as the face names it first.
        refuseNoDictionaries((desk, no) -> desk.correct((int) no));
    }

    private static void correctRefusesEmptyPhrase() {
        SuggestDesk desk = built("a 9999");
        refused("nothing was said", STATE, () -> desk.correct(1));
        refused("again", STATE, () -> desk.correct(1));
        outcome(() -> desk.say(0));
        refused("what was refused was not said", STATE, () -> desk.correct(1));
        desk.say(A);
        due("one word is enough", desk.correct(1), 0);
        refused("and is gone", STATE, () -> desk.correct(1));
    }

    // Promise 16

    private static void correctedLast() {
        SuggestDesk desk = built("a 9999", "bbbb 9999");
        corrects(desk, 1, "a bbbb a bbbb", 0, "a", "bbbb", "a", "bbbb");
        corrects(desk, 1, "bbb", 3000, "bbbb");
        desk.say(A);
        corrected(desk, "bbbb");
        refused("this phrase is not corrected", NONE, () -> desk.correct(2));
        corrected(desk, "bbbb");
        refused("nor is an empty one", STATE, () -> desk.correct(1));
        corrected(desk, "bbbb");
        desk.build();
        refused("its dictionary went", NONE, () -> desk.look(1, 0));
        corrected(desk, "bbbb");
        corrects(desk, 2, "a a", 0, "a", "a");
    }

    private static void correctedRefuses() {
        SuggestDesk desk = built("a 9999");
        corrected(desk);
        int[] none = {-1, 4, 5, Integer.MIN_VALUE, Integer.MAX_VALUE};
        for (int words = 4; words >= 1; words--) {
            for (int i = 0; i < words; i++) {
                desk.say(A);
            }
            desk.correct(1);
            for (int k = 0; k < words; k++) {
                due("corrected " + k, desk.corrected(k), A);
            }
            int behind = words;
            refused("behind the last", INDEX, () -> desk.corrected(behind));
            for (int k : none) {
                refused("corrected " + k, INDEX, () -> desk.corrected(k));
            }
        }
    }

    // What the tests share

    private static void sentence(String words, Runnable test) {
        part(words);
        Object ended = outcome(() -> {
            test.run();
            return "to its end";
        });
        due("the test goes", ended, "to its end");
    }

    /** Three dictionaries of 1, 2 and 3 words, a reader at each. */
    private static SuggestDesk threeHeld() {
        SuggestDesk desk = new SuggestDesk();
        for (int number = 1; number <= 3; number++) {
            desk.word(twoLetters(number), number);
            due("build", desk.build(), number);
            due("hold", desk.hold(), number);
        }
        return desk;
    }

    private static void refuseNoWords(Taker taker, Class<? extends RuntimeException> thrown) {
        for (long no : NO_WORDS) {
            SuggestDesk desk = built("a 1");
            refused("no word " + no, thrown, () -> taker.take(desk, no));
        }
    }

    /** Dictionaries 1 and 3 are there, 2 went, and no other was made. */
    private static void refuseNoDictionaries(Taker taker) {
        long[] numbers = {0, 2, 4, 5, -1, -3, Integer.MIN_VALUE, Integer.MAX_VALUE};
        for (long no : numbers) {
            SuggestDesk desk = built("a 1");
            desk.hold();
            desk.build();
            desk.build();
            refused("no dictionary " + no, NONE, () -> taker.take(desk, no));
            refused("none of a new object " + no, NONE, () -> taker.take(new SuggestDesk(), no));
            due("1 is there", desk.look(1, 0), 1);
            due("3 is there", desk.look(3, 0), 1);
        }
    }

    /** Words of each length with the first and the last letter at each place. */
    private static List<String> edgeWords() {
        List<String> words = new ArrayList<>();
        for (int length = 1; length <= 8; length++) {
            words.add(repeated('a', length));
            words.add(repeated('j', length));
            for (int place = 0; place < length && length > 1; place++) {
                words.add(repeated('a', place) + "j" + repeated('a', length - place - 1));
            }
        }
        words.add("abcdefgh");
        words.add("jihgfedc");
        return words;
    }

    /** Numbers with one byte that is no letter, for each length at each place, and some odd ones. */
    private static List<Long> noWords() {
        List<Long> numbers = new ArrayList<>(List.of(
            0L, 1L, -1L, -97L, Long.MIN_VALUE, Long.MAX_VALUE, (long) Integer.MAX_VALUE, (long) Integer.MIN_VALUE,
            A | 1L << 32, A | 1L << 63, A | -1L << 32, A << 32, A << 56, A << 16 | A, number("abcdefg") << 8));
        int[] noLetters = {96, 107, 0, 1, 'A', 'z', 127, 128 + 'a', 255};
        for (int length = 1; length <= 8; length++) {
            for (int place = 0; place < length; place++) {
                for (int no : noLetters) {
                    // No letter before the first one is just a shorter word.
                    if (no != 0 || place < length - 1) {
                        long rest = number(repeated('e', length)) & ~(255L << 8 * place);
                        numbers.add(rest | (long) no << 8 * place);
                    }
                }
            }
        }
        return numbers;
    }
}
