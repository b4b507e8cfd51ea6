import java.util.NoSuchElementException;

/** Each promise of the document in use; BoundaryTests has the boundary cases one by one. */
public final class PromiseTests extends Checks {
    public static void main(String[] args) {
        part("promise 1 new object");
        newObject();
        part("promise 2 word");
        wordCountsAndChanges();
        part("promise 3 drop");
        dropTakesOut();
        part("promise 4 build");
        buildNumbers();
        buildRefuses();
        buildKeepsWhatReadersHold();
        part("promise 5 hold");
        holdCurrent();
        part("promise 6 release");
        releaseTells();
        part("promise 7 look");
        lookCounts();
        automatonSharesEndings();
        automatonMindsCosts();
        part("promise 8 cost");
        costOfWords();
        part("promise 9 complete");
        completeInOrder();
        part("promise 10 near");
        nearInOrder();
        part("promise 11 given");
        givenWords();
        part("promise 12 distance");
        distances();
        part("promise 13 learn");
        learnCounts();
        part("promise 14 say");
        sayCounts();
        part("promise 15 correct");
        correctSingleWords();
        correctByPairs();
        correctUnknownWords();
        correctTies();
        correctRefuses();
        part("promise 16 corrected");
        correctedWords();
        end();
    }

    // Promise 1

    private static void newObject() {
        SuggestDesk desk = new SuggestDesk();
        refused("empty draft", IllegalStateException.class, desk::build);
        refused("no dictionary to hold", IllegalStateException.class, desk::hold);
        for (int number = -1; number <= 3; number++) {
            int n = number;
            refused("look " + n, NoSuchElementException.class, () -> desk.look(n, 0));
            refused("release " + n, IllegalArgumentException.class, () -> desk.release(n));
        }
        refused("nothing given", IndexOutOfBoundsException.class, () -> desk.given(0));
        refused("nothing corrected", IndexOutOfBoundsException.class, () -> desk.corrected(0));
        due("first word", desk.word(number("a"), 1), 1);
        due("first pair", desk.learn(number("a"), number("b")), 1);
        due("first said", desk.say(number("a")), 1);
        due("first build", desk.build(), 1);
        due("objects share nothing", new SuggestDesk().drop(number("a")), false);
    }

    // Promise 2

    private static void wordCountsAndChanges() {
        SuggestDesk desk = new SuggestDesk();
        due("one", desk.word(number("j"), 0), 1);
        due("two", desk.word(number("abcdefgh"), 9999), 2);
        due("again", desk.word(number("j"), 5000), 2);
        due("three", desk.word(number("ja"), 1), 3);
        desk.build();
        due("the later weight counts", desk.cost(1, number("j")), 4999);
        due("weight 9999", desk.cost(1, number("abcdefgh")), 0);
        desk.word(number("j"), 0);
        desk.build();
        due("weight 0", desk.cost(2, number("j")), 9999);
    }

    // Promise 3

    private static void dropTakesOut() {
        SuggestDesk desk = desk("a 1", "ab 2", "b 3");
        due("not there", desk.drop(number("aba")), false);
        due("there", desk.drop(number("ab")), true);
        due("gone", desk.drop(number("ab")), false);
        desk.build();
        due("words", desk.look(1, 0), 2);
        due("first stays", desk.cost(1, number("a")), 9998);
        due("last stays", desk.cost(1, number("b")), 9996);
        refused("dropped", NoSuchElementException.class, () -> desk.cost(1, number("ab")));
        due("the last one", desk.drop(number("b")), true);
        due("the last one is gone", desk.drop(number("b")), false);
        due("the only one", desk.drop(number("a")), true);
        due("the only one is gone", desk.drop(number("a")), false);
        due("the dictionary keeps its words", desk.cost(1, number("a")), 9998);
        refused("all dropped", IllegalStateException.class, desk::build);
        SuggestDesk full = new SuggestDesk();
        fill(full, 24);
        due("behind the last of 24", full.drop(number("jj")), false);
        due("the last of 24", full.drop(twoLetters(23)), true);
    }

    // Promise 4

    private static void buildNumbers() {
        SuggestDesk desk = desk("a 1");
        due("first", desk.build(), 1);
        due("second", desk.build(), 2);
        refused("the one before went", NoSuchElementException.class, () -> desk.look(1, 0));
        desk.word(number("b"), 1);
        due("the draft stays", desk.build(), 3);
        due("words", desk.look(3, 0), 2);
    }

    private static void buildRefuses() {
        SuggestDesk desk = desk("a 1");
        for (int number = 1; number <= 3; number++) {
            due("build", desk.build(), number);
            due("hold", desk.hold(), number);
        }
        refused("3 would stay", IllegalStateException.class, desk::build);
        due("the current one is the same", desk.hold(), 3);
        due("1 goes", desk.release(1), false);
        due("a refused one takes no number", desk.build(), 4);
        due("2 is there", desk.look(2, 3), 1);
        due("3 is there", desk.look(3, 3), 2);
        due("an unheld current one goes", desk.build(), 5);
        refused("4 went", NoSuchElementException.class, () -> desk.look(4, 0));
        desk.drop(number("a"));
        refused("empty", IllegalStateException.class, desk::build);
        due("still there", desk.look(5, 0), 1);
    }

    private static void buildKeepsWhatReadersHold() {
        SuggestDesk desk = desk("a 1", "b 2");
        desk.build();
        desk.hold();
        desk.word(number("a"), 9);
        desk.drop(number("b"));
        desk.word(number("c"), 3);
        desk.build();
        due("the held one's weight", desk.cost(1, number("a")), 9998);
        due("the held one's word", desk.cost(1, number("b")), 9997);
        refused("no new word there", NoSuchElementException.class, () -> desk.cost(1, number("c")));
        due("the new one's weight", desk.cost(2, number("a")), 9990);
        due("the new one's word", desk.cost(2, number("c")), 9996);
        refused("no old word there", NoSuchElementException.class, () -> desk.cost(2, number("b")));
        due("no reader of the new one", desk.look(2, 3), 0);
    }

    // Promise 5

    private static void holdCurrent() {
        SuggestDesk desk = desk("a 1");
        refused("none", IllegalStateException.class, desk::hold);
        desk.build();
        for (int i = 1; i <= 9; i++) {
            due("hold " + i, desk.hold(), 1);
            due("readers " + i, desk.look(1, 3), i);
        }
        refused("the 10th", IllegalStateException.class, desk::hold);
        due("9 readers", desk.look(1, 3), 9);
        desk.release(1);
        due("room again", desk.hold(), 1);
        desk.build();
        due("the current one", desk.hold(), 2);
        due("9 readers of the first", desk.look(1, 3), 9);
        due("1 of the second", desk.look(2, 3), 1);
    }

    // Promise 6

    private static void releaseTells() {
        SuggestDesk desk = desk("a 1");
        desk.build();
        refused("none holds it", IllegalArgumentException.class, () -> desk.release(1));
        desk.hold();
        due("the current one stays", desk.release(1), true);
        refused("none holds it now", IllegalArgumentException.class, () -> desk.release(1));
        desk.hold();
        desk.hold();
        desk.build();
        due("another reader", desk.release(1), true);
        due("one reader", desk.look(1, 3), 1);
        due("the last reader", desk.release(1), false);
        refused("it went", NoSuchElementException.class, () -> desk.look(1, 0));
        refused("not there", IllegalArgumentException.class, () -> desk.release(1));
        int[] never = {0, -1, 3, Integer.MIN_VALUE, Integer.MAX_VALUE};
        for (int no : never) {
            refused("never there " + no, IllegalArgumentException.class, () -> desk.release(no));
        }
    }

    // Promise 7

    private static void lookCounts() {
        SuggestDesk desk = desk("abcdefgh 1");
        desk.build();
        looks(desk, 1, 1, 9, 8);
        desk.hold();
        due("readers", desk.look(1, 3), 1);
        SuggestDesk two = desk("a 1", "b 1");
        two.build();
        looks(two, 1, 2, 2, 2);
        SuggestDesk most = desk();
        for (int i = 0; i < 24; i++) {
            String first = i < 10 ? "" : i < 20 ? "a" : "b";
            most.word(number(first + (char) ('a' + i % 10) + "aaaaaa"), i * 300);
        }
        most.build();
        due("24 words", most.look(1, 0), 24);
    }

    private static void automatonSharesEndings() {
        SuggestDesk ends = desk("ac 1", "bc 1");
        ends.build();
        looks(ends, 1, 2, 3, 3);
        SuggestDesk within = desk("a 1", "aa 1", "aaa 1");
        within.build();
        looks(within, 1, 3, 4, 3);
        SuggestDesk lengths = desk("ab 5", "abab 5", "bab 5");
        lengths.build();
        // R: all; {b, bab} behind a; {"", ab} behind ab; {b}; {""}; {ab} behind b.
        looks(lengths, 1, 3, 6, 6);
        SuggestDesk longest = desk("aaaaaaaa 1", "baaaaaaa 1", "b 1");
        longest.build();
        // Behind b the empty word stands beside aaaaaaa, so it is another state than behind a.
        looks(longest, 1, 3, 10, 10);
    }

    private static void automatonMindsCosts() {
        SuggestDesk same = desk("ac 10", "ad 30", "bc 510", "bd 530");
        same.build();
        looks(same, 1, 4, 3, 4);
        SuggestDesk other = desk("ac 10", "ad 30", "bc 510", "bd 531");
        other.build();
        looks(other, 1, 4, 4, 6);
        SuggestDesk turned = desk("ac 10", "ad 30", "bc 530", "bd 510");
        turned.build();
        looks(turned, 1, 4, 4, 6);
        SuggestDesk whole = desk("a 10", "ac 20", "b 510", "bc 520", "d 10", "dc 10");
        whole.build();
        looks(whole, 1, 6, 4, 5);
    }

    // Promise 8

    private static void costOfWords() {
        SuggestDesk desk = desk("a 0", "ab 9999", "abcdefgh 1234");
        desk.build();
        due("weight 0", desk.cost(1, number("a")), 9999);
        due("weight 9999", desk.cost(1, number("ab")), 0);
        due("8 letters", desk.cost(1, number("abcdefgh")), 8765);
        String[] others = {"b", "abc", "aa", "abcdefg", "abcdefgi", "j"};
        for (String other : others) {
            refused("not there " + other, NoSuchElementException.class, () -> desk.cost(1, number(other)));
        }
        refused("no dictionary", NoSuchElementException.class, () -> desk.cost(2, number("a")));
        refused("no dictionary 0", NoSuchElementException.class, () -> desk.cost(0, number("a")));
    }

    // Promise 9

    private static void completeInOrder() {
        SuggestDesk desk = desk("b 50", "ab 50", "a 50", "abc 70", "abd 10", "ba 50", "aba 50");
        desk.build();
        due("all", desk.complete(1, 0, 24), 7);
        given(desk, "abc", "a", "ab", "aba", "b", "ba", "abd");
        due("ab", desk.complete(1, number("ab"), 24), 4);
        given(desk, "abc", "ab", "aba", "abd");
        due("the whole word", desk.complete(1, number("abd"), 24), 1);
        given(desk, "abd");
        due("longer than any", desk.complete(1, number("abda"), 24), 0);
        given(desk);
        due("none begins so", desk.complete(1, number("c"), 24), 0);
        given(desk);
        SuggestDesk eight = desk("abcdefgh 1", "abcdefgi 2", "abcdefg 3");
        eight.build();
        due("7 letters", eight.complete(1, number("abcdefg"), 24), 3);
        given(eight, "abcdefg", "abcdefgi", "abcdefgh");
        due("8 letters", eight.complete(1, number("abcdefgh"), 24), 1);
        given(eight, "abcdefgh");
    }

    // Promise 10

    private static void nearInOrder() {
        SuggestDesk desk = desk("ab 10", "ba 20", "abc 30", "b 20", "bb 20", "abcd 9999", "jjjj 9999", "cab 5000");
        desk.build();
        due("distance 0", desk.near(1, number("ab"), 0), 1);
        given(desk, "ab");
        due("distance 1", desk.near(1, number("ab"), 1), 6);
        given(desk, "ab", "cab", "abc", "b", "ba", "bb");
        due("distance 2", desk.near(1, number("ab"), 2), 7);
        given(desk, "ab", "cab", "abc", "b", "ba", "bb", "abcd");
        due("not there itself", desk.near(1, number("aj"), 0), 0);
        given(desk);
        due("none", desk.near(1, number("gggggggg"), 2), 0);
        given(desk);
        SuggestDesk edge = desk("a 0", "b 9999");
        edge.build();
        due("a lower distance before a lower cost", edge.near(1, number("a"), 1), 2);
        given(edge, "a", "b");
        SuggestDesk full = new SuggestDesk();
        fill(full, 24);
        full.build();
        due("all of two letters", full.near(1, number("ja"), 2), 24);
    }

    // Promise 11

    private static void givenWords() {
        SuggestDesk desk = desk("a 1", "b 2", "cccccccc 3");
        desk.build();
        desk.hold();
        desk.complete(1, 0, 24);
        given(desk, "cccccccc", "b", "a");
        desk.near(1, number("a"), 1);
        given(desk, "a", "b");
        refused("far", IndexOutOfBoundsException.class, () -> desk.given(Integer.MAX_VALUE));
        refused("below", IndexOutOfBoundsException.class, () -> desk.given(Integer.MIN_VALUE));
        desk.word(number("a"), 9);
        desk.drop(number("b"));
        desk.build();
        desk.release(1);
        given(desk, "a", "b");
        Call[] throwing = {
            () -> desk.complete(2, 96, 3), () -> desk.complete(2, 0, 25), () -> desk.complete(1, 0, 3),
            () -> desk.near(2, 96, 1), () -> desk.near(2, number("a"), 3), () -> desk.near(1, number("a"), 1)
        };
        for (Call call : throwing) {
            desk.complete(2, 0, 24);
            given(desk, "a", "cccccccc");
            outcome(call);
            given(desk);
        }
        desk.complete(2, 0, 24);
        outcome(() -> desk.cost(9, 1));
        outcome(() -> desk.correct(9));
        given(desk, "a", "cccccccc");
    }

    // Promise 12

    private static void distances() {
        distanceDue("a", "a", 0);
        distanceDue("a", "b", 1);
        distanceDue("a", "ab", 1);
        distanceDue("a", "bbbbbbbb", 8);
        distanceDue("abcdefgh", "abcdefgh", 0);
        distanceDue("abcdefgh", "hgfedcba", 7);
        distanceDue("ab", "ba", 1);
        distanceDue("abcdefgh", "badcfehg", 4);
        distanceDue("abcdefgh", "bcdefgha", 2);
        // No letter is changed twice: exchanging and then putting one between is not 2.
        distanceDue("ca", "abc", 3);
        distanceDue("abc", "cab", 2);
        distanceDue("aabb", "abab", 1);
        distanceDue("abcd", "acbd", 1);
        distanceDue("abc", "acd", 2);
        distanceDue("aaaa", "aa", 2);
        distanceDue("abcdefgh", "ah", 6);
    }

    // Promise 13

    private static void learnCounts() {
        SuggestDesk desk = new SuggestDesk();
        due("first time", desk.learn(number("a"), number("b")), 1);
        due("second time", desk.learn(number("a"), number("b")), 2);
        due("the other way", desk.learn(number("b"), number("a")), 1);
        due("with itself", desk.learn(number("a"), number("a")), 1);
        due("8 letters", desk.learn(number("abcdefgh"), number("jjjjjjjj")), 1);
        for (int i = 3; i <= 100; i++) {
            due("time " + i, desk.learn(number("a"), number("b")), i);
        }
    }

    // Promise 14

    private static void sayCounts() {
        SuggestDesk desk = desk("a 1");
        desk.build();
        for (int i = 1; i <= 4; i++) {
            due("said " + i, desk.say(number("a")), i);
        }
        refused("the 5th", IllegalStateException.class, () -> desk.say(number("a")));
        refused("no word comes first", IllegalArgumentException.class, () -> desk.say(0));
        due("4 words", desk.correct(1), 4 * 9998);
        due("from the beginning", desk.say(number("a")), 1);
    }

    // Promise 15

    private static void correctSingleWords() {
        SuggestDesk desk = desk("ab 100", "ac 5000", "abcd 9999", "e 0");
        desk.build();
        corrects(desk, 1, "ac", 4999, "ac");
        // A change costs 3000, so a far better weight wins.
        corrects(desk, 1, "ab", 3000 + 4999, "ac");
        corrects(desk, 1, "a", 3000 + 4999, "ac");
        corrects(desk, 1, "ca", 3000 + 4999, "ac");
        corrects(desk, 1, "abc", 3000, "abcd");
        corrects(desk, 1, "hhhhhhhh", 20000, "hhhhhhhh");
        corrects(desk, 1, "e", 9999, "e");
        corrects(desk, 1, "f", 3000 + 9999, "e");
        // At distance 2 nothing is a candidate.
        corrects(desk, 1, "cd", 20000, "cd");
        corrects(desk, 1, "ab ab ab ab", 4 * 7999, "ac", "ac", "ac", "ac");
    }

    private static void correctByPairs() {
        SuggestDesk desk = desk("aa 5000", "ab 5000", "ba 5000", "bb 5000");
        desk.build();
        corrects(desk, 1, "aa ba", 9998, "aa", "ba");
        desk.learn(number("ab"), number("bb"));
        corrects(desk, 1, "ab bb", 9998 - 400, "ab", "bb");
        corrects(desk, 1, "bb ab", 9998, "bb", "ab");
        corrects(desk, 1, "ac bc", 6000 + 9998 - 400, "ab", "bb");
        for (int i = 2; i <= 5; i++) {
            desk.learn(number("ab"), number("bb"));
            corrects(desk, 1, "ab bb", 9998 - 400 * i, "ab", "bb");
        }
        // Each two that follow one another count, also the same two again.
        corrects(desk, 1, "ab bb ab bb", 4 * 4999 - 2 * 2000, "ab", "bb", "ab", "bb");
        desk.learn(number("bb"), number("ab"));
        corrects(desk, 1, "ab bb ab bb", 4 * 4999 - 2 * 2000 - 400, "ab", "bb", "ab", "bb");
        corrects(desk, 1, "ab", 4999, "ab");
        // A later word may decide about an earlier one.
        SuggestDesk back = desk("a 9999", "b 9999", "eeee 9999");
        back.build();
        corrects(back, 1, "c eeee", 3000, "a", "eeee");
        back.learn(number("b"), number("eeee"));
        corrects(back, 1, "c eeee", 3000 - 400, "b", "eeee");
    }

    private static void correctUnknownWords() {
        SuggestDesk desk = desk("a 9999");
        desk.build();
        desk.learn(number("hhhh"), number("a"));
        desk.learn(number("hhhh"), number("a"));
        desk.learn(number("hhhh"), number("jjjj"));
        corrects(desk, 1, "hhhh a", 20000 - 800, "hhhh", "a");
        corrects(desk, 1, "hhhh jjjj", 40000 - 400, "hhhh", "jjjj");
        corrects(desk, 1, "jjjj hhhh", 40000, "jjjj", "hhhh");
        corrects(desk, 1, "hhhh hhhh hhhh hhhh", 80000, "hhhh", "hhhh", "hhhh", "hhhh");
    }

    private static void correctTies() {
        SuggestDesk desk = desk("b 50", "a 50", "ca 50", "aa 50");
        desk.build();
        // Of the same cost the first word that comes first, then the second.
        corrects(desk, 1, "d", 3000 + 9949, "a");
        corrects(desk, 1, "d d", 2 * (3000 + 9949), "a", "a");
        corrects(desk, 1, "da d", 2 * (3000 + 9949), "a", "a");
        desk.learn(number("a"), number("b"));
        desk.learn(number("b"), number("a"));
        corrects(desk, 1, "d d", 2 * (3000 + 9949) - 400, "a", "b");
        SuggestDesk order = desk("ab 50", "a 50", "b 50");
        order.build();
        corrects(order, 1, "bb", 3000 + 9949, "ab");
        corrects(order, 1, "e", 3000 + 9949, "a");
        desk.learn(number("b"), number("b"));
        corrects(desk, 1, "d d d d", 4 * (3000 + 9949) - 3 * 400, "a", "b", "a", "b");
    }

    private static void correctRefuses() {
        SuggestDesk desk = desk("a 1");
        refused("no dictionary at all", NoSuchElementException.class, () -> desk.correct(1));
        desk.build();
        refused("empty", IllegalStateException.class, () -> desk.correct(1));
        refused("no dictionary comes first", NoSuchElementException.class, () -> desk.correct(2));
        int[] noDictionary = {0, -1, 2, Integer.MIN_VALUE, Integer.MAX_VALUE};
        for (int no : noDictionary) {
            desk.say(number("a"));
            refused("no dictionary " + no, NoSuchElementException.class, () -> desk.correct(no));
            due("the phrase is empty", desk.say(number("a")), 1);
            due("and is corrected", desk.correct(1), 9998);
            refused("empty afterwards", IllegalStateException.class, () -> desk.correct(1));
        }
        desk.hold();
        desk.drop(number("a"));
        desk.word(number("b"), 9999);
        desk.build();
        corrects(desk, 1, "a", 9998, "a");
        corrects(desk, 2, "a", 3000, "b");
    }

    // Promise 16

    private static void correctedWords() {
        SuggestDesk desk = desk("abcdefgh 1", "a 2");
        desk.build();
        corrects(desk, 1, "abcdefg a", 3000 + 9998 + 9997, "abcdefgh", "a");
        int[] none = {-1, 2, 3, 4, Integer.MIN_VALUE, Integer.MAX_VALUE};
        for (int k : none) {
            refused("none " + k, IndexOutOfBoundsException.class, () -> desk.corrected(k));
        }
        desk.say(number("jjjj"));
        corrected(desk, "abcdefgh", "a");
        outcome(() -> desk.correct(7));
        corrected(desk, "abcdefgh", "a");
        outcome(() -> desk.correct(1));
        corrected(desk, "abcdefgh", "a");
        desk.drop(number("a"));
        desk.build();
        corrected(desk, "abcdefgh", "a");
        corrects(desk, 2, "jjjj", 20000, "jjjj");
    }
}
