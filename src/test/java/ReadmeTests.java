/** The example of README.md, call by call, with the answers that its comments tell. */
public final class ReadmeTests extends Checks {
    private static final long AB = 24930L;
    private static final long ABC = 6382179L;
    private static final long BA = 25185L;
    private static final long J = 106L;

    public static void main(String[] args) {
        part("the example of README.md");
        due("ab", number("ab"), AB);
        due("abc", number("abc"), ABC);
        due("ba", number("ba"), BA);
        due("j", number("j"), J);
        SuggestDesk desk = new SuggestDesk();
        makeDictionary(desk);
        findWords(desk);
        correctPhrase(desk);
        due("release", desk.release(1), true);
        end();
    }

    private static void makeDictionary(SuggestDesk desk) {
        due("word ab", desk.word(AB, 9000), 1);
        due("word abc", desk.word(ABC, 100), 2);
        due("word j", desk.word(J, 5), 3);
        due("drop j", desk.drop(J), true);
        due("build", desk.build(), 1);
        due("hold", desk.hold(), 1);
        due("words", desk.look(1, 0), 2);
        due("states", desk.look(1, 1), 4);
        due("cost", desk.cost(1, AB), 999);
    }

    private static void findWords(SuggestDesk desk) {
        due("complete", desk.complete(1, A, 5), 2);
        due("the first", desk.given(0), AB);
        due("near ba", desk.near(1, BA, 1), 1);
        due("ab is near", desk.given(0), AB);
        due("distance", desk.distance(AB, BA), 1);
    }

    private static void correctPhrase(SuggestDesk desk) {
        due("learn", desk.learn(AB, AB), 1);
        due("say ab", desk.say(AB), 1);
        due("say a", desk.say(A), 2);
        due("correct", desk.correct(1), 4598);
        due("the second", desk.corrected(1), AB);
    }
}
