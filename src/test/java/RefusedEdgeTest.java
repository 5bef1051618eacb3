import java.util.ArrayList;
import java.util.List;
import java.util.function.ToLongFunction;

/**
 * "A call that throws an exception changes nothing; if several exceptions apply, the one that its
 * throws lines name first is thrown": refused calls of each kind, in objects from new to full. Of two
 * objects that are alike one gets the refused call; then both are asked the same, down to the last
 * word and rule.
 */
public final class RefusedEdgeTest extends Edges {
    /** As many words, rules and words of the row as the objects of one run have. */
    private int words;
    private int rules;
    private int said;

    private RefusedEdgeTest() {
        super("RefusedEdgeTest");
    }

    public static void main(String[] args) {
        RefusedEdgeTest test = new RefusedEdgeTest();
        test.check.about("A call that throws an exception changes nothing");
        int[][] states = {{0, 0, 0}, {0, 8, 0}, {9, 0, 0}, {1, 0, 1}, {4, 3, 2}, {8, 7, 5}, {9, 8, 6}};
        for (int[] state : states) {
            test.words = state[0];
            test.rules = state[1];
            test.said = state[2];
            test.refuseAll();
        }
        test.check.end();
    }

    /** Words and rules that are all apart, and a row that several of the rules are needed for. */
    private SentenceGym make() {
        int[][] lexicon = {{1, 1, 0}, {2, 0, 1}, {0, 2, 0}, {1, 2, 3}, {2, 1, 1}, {3, 3, 3}, {7, 0, 2}, {0, 0, 0}, {1, 0, 2}};
        int[][] grammar = {{0, 1, 2, 20}, {1, 1, 0, 3}, {0, 0, 0, 12}, {2, 2, 7, 2}, {0, 1, 0, 31}, {7, 7, 0, 22}, {2, 0, 2, 11}, {0, 0, 2, 1}};
        int[] row = {0, 1, 2, 3, 4, 7};
        SentenceGym gym = new SentenceGym();
        for (int word = 0; word < words; word++) {
            gym.addWord(lexicon[word][0], lexicon[word][1], lexicon[word][2]);
        }
        for (int rule = 0; rule < rules; rule++) {
            gym.addRule(grammar[rule][0], grammar[rule][1], grammar[rule][2], grammar[rule][3]);
        }
        for (int place = 0; place < said; place++) {
            gym.say(row[place]);
        }
        return gym;
    }

    private void refuse(String what, Class<? extends RuntimeException> due, ToLongFunction<SentenceGym> call) {
        String title = what + " with " + words + " words, " + rules + " rules, " + said + " said";
        SentenceGym gym = make();
        check.throwsJust(title, due, () -> call.applyAsLong(gym));
        check.equal(title + ": all answers", answers(gym), answers(make()));
    }

    private void refuseAll() {
        refuseWords();
        refuseSetWord();
        refuseRules();
        refuseRow();
        refuseParsing();
        refuseMaking();
    }

    private void refuseWords() {
        refuse("addWord category -1", ARGUMENT, gym -> gym.addWord(-1, 1, 1));
        refuse("addWord category 8", ARGUMENT, gym -> gym.addWord(8, 1, 1));
        refuse("addWord first -1", ARGUMENT, gym -> gym.addWord(1, -1, 1));
        refuse("addWord first 4", ARGUMENT, gym -> gym.addWord(1, 4, 1));
        refuse("addWord second -1", ARGUMENT, gym -> gym.addWord(1, 1, -1));
        refuse("addWord second 4", ARGUMENT, gym -> gym.addWord(1, 1, 4));
        if (words == 9) {
            refuse("addWord", STATE, gym -> gym.addWord(0, 3, 3));
        }
    }

    private void refuseSetWord() {
        for (int wrong : outside(0, words - 1)) {
            refuse("setWord " + wrong, INDEX, gym -> gym.setWord(wrong, 0, 3, 3));
            refuse("setWord " + wrong + " to none", INDEX, gym -> gym.setWord(wrong, 8, 3, 3));
        }
        for (int right = 0; right < words; right++) {
            int word = right;
            refuse("setWord category -1", ARGUMENT, gym -> gym.setWord(word, -1, 3, 1));
            refuse("setWord category 8", ARGUMENT, gym -> gym.setWord(word, 8, 3, 1));
            refuse("setWord first -1", ARGUMENT, gym -> gym.setWord(word, 5, -1, 1));
            refuse("setWord first 4", ARGUMENT, gym -> gym.setWord(word, 5, 4, 1));
            refuse("setWord second -1", ARGUMENT, gym -> gym.setWord(word, 5, 3, -1));
            refuse("setWord second 4", ARGUMENT, gym -> gym.setWord(word, 5, 3, 4));
        }
    }

    private void refuseRules() {
        for (int wrong : outside(0, 7)) {
            refuse("addRule made " + wrong, ARGUMENT, gym -> gym.addRule(wrong, 0, 0, 33));
            refuse("addRule first " + wrong, ARGUMENT, gym -> gym.addRule(0, wrong, 0, 33));
            refuse("addRule second " + wrong, ARGUMENT, gym -> gym.addRule(0, 0, wrong, 33));
        }
        for (int wrong : new int[] {-1, 4, 34, 40}) {
            refuse("addRule modes " + wrong, ARGUMENT, gym -> gym.addRule(0, 0, 0, wrong));
        }
        if (rules == 8) {
            refuse("addRule", STATE, gym -> gym.addRule(0, 0, 0, 33));
        }
        if (rules == 0) {
            refuse("dropRule", STATE, SentenceGym::dropRule);
        }
    }

    private void refuseRow() {
        for (int wrong : outside(0, words - 1)) {
            refuse("say " + wrong, INDEX, gym -> gym.say(wrong));
            refuse("change 0 to " + wrong, INDEX, gym -> gym.change(0, wrong));
        }
        if (said == 6) {
            refuse("say", STATE, gym -> gym.say(0));
        }
        for (int wrong : outside(0, said - 1)) {
            refuse("change " + wrong, INDEX, gym -> gym.change(wrong, 0));
            refuse("change " + wrong + " to none", INDEX, gym -> gym.change(wrong, words));
            refuse("wordAt " + wrong, INDEX, gym -> gym.wordAt(wrong));
        }
    }

    private void refuseParsing() {
        int[][] spans = {{-1, said, 0}, {0, 0, 0}, {said, said, 0}, {said, 0, 0}, {0, said + 1, 0}, {0, said, 8}, {0, said, -1}};
        for (int[] s : spans) {
            refuse("readingsOf " + s[0] + " to " + s[1], INDEX, gym -> gym.readingsOf(s[0], s[1], s[2]));
            refuse("has " + s[0] + " to " + s[1], INDEX, gym -> gym.has(s[0], s[1], s[2], 0) ? 1 : 0);
            refuse("has no values " + s[0] + " to " + s[1], INDEX, gym -> gym.has(s[0], s[1], s[2], 4) ? 1 : 0);
        }
        if (said > 0) {
            refuse("has -1", ARGUMENT, gym -> gym.has(0, said, 0, -1) ? 1 : 0);
            refuse("has 4", ARGUMENT, gym -> gym.has(0, said, 0, 4) ? 1 : 0);
            refuse("has 40", ARGUMENT, gym -> gym.has(0, said, 0, 40) ? 1 : 0);
        }
    }

    private void refuseMaking() {
        for (int wrong : outside(1, 4)) {
            refuse("sentences " + wrong, ARGUMENT, gym -> gym.sentences(wrong));
            refuse("sentence " + wrong, ARGUMENT, gym -> gym.sentence(wrong, 0));
            refuse("share " + wrong, ARGUMENT, gym -> (long) gym.share(wrong));
        }
        refuse("sentence 2, -1", ARGUMENT, gym -> gym.sentence(2, -1));
        refuse("sentence 0, -1", ARGUMENT, gym -> gym.sentence(0, -1));
        refuse("correction -1", INDEX, gym -> gym.correction(-1));
        for (int wrong : outside(0, said - 1)) {
            refuse("spoil " + wrong, INDEX, gym -> gym.spoil(wrong));
        }
    }

    /** What an object answers in less than 480 calls; it is taken to pieces on the way. */
    private static List<String> answers(SentenceGym gym) {
        List<String> answers = new ArrayList<>();
        askForAll(gym, answers);
        askForSpans(gym, answers);
        takeToPieces(gym, answers);
        return answers;
    }

    private static void askForAll(SentenceGym gym, List<String> answers) {
        ask(answers, gym::said);
        ask(answers, gym::readings);
        ask(answers, gym::readingsPlainly);
        ask(answers, gym::level);
        ask(answers, gym::changes);
        for (int place = 0; place < 6; place++) {
            int at = place;
            ask(answers, () -> gym.wordAt(at));
            ask(answers, () -> gym.spoil(at));
        }
        for (int length = 1; length <= 3; length++) {
            int right = length;
            ask(answers, () -> gym.sentences(right));
            ask(answers, () -> Float.floatToIntBits(gym.share(right)));
            ask(answers, () -> gym.sentence(right, 0));
            ask(answers, () -> gym.sentence(right, 3));
        }
        for (int k = 0; k < 12; k++) {
            int number = k;
            ask(answers, () -> gym.correction(number));
        }
    }

    private static void askForSpans(SentenceGym gym, List<String> answers) {
        int length = gym.said();
        for (int from = 0; from < length; from++) {
            for (int to = from + 1; to <= length; to++) {
                for (int category : new int[] {0, 1, 2, 7}) {
                    int first = from;
                    int behind = to;
                    ask(answers, () -> gym.readingsOf(first, behind, category));
                }
            }
        }
    }

    /** The rules from the latest on, then each word by itself. */
    private static void takeToPieces(SentenceGym gym, List<String> answers) {
        for (int time = 0; time < 9; time++) {
            ask(answers, gym::dropRule);
            ask(answers, () -> gym.sentences(2));
            ask(answers, gym::readings);
        }
        gym.hush();
        for (int number = 0; number < 10; number++) {
            int word = number;
            ask(answers, () -> gym.say(word));
            int category = categoryOfOne(gym);
            for (int values = 0; values <= 33; values++) {
                int pair = values;
                if (isDigitPair(values)) {
                    ask(answers, () -> gym.has(0, 1, category, pair) ? 1 : 0);
                }
            }
            ask(answers, () -> gym.setWord(word, 0, 0, 0));
            ask(answers, gym::hush);
        }
    }

    /** The category of the only word of the row; NONE if there is no word. */
    private static int categoryOfOne(SentenceGym gym) {
        int length = gym.said();
        for (int category = 0; category <= 7 && length == 1; category++) {
            if (gym.readingsOf(0, 1, category) == 1) {
                return category;
            }
        }
        return NONE;
    }

    private static void ask(List<String> answers, Check.Call call) {
        answers.add(Check.outcome(call));
    }
}
