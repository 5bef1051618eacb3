/** Each promise of the document by hand: ordinary inputs, the edges it names, and wrong inputs. */
public final class PromiseTest {
    private static final Class<IllegalArgumentException> ARGUMENT = IllegalArgumentException.class;
    private static final Class<IllegalStateException> STATE = IllegalStateException.class;
    private static final Class<IndexOutOfBoundsException> INDEX = IndexOutOfBoundsException.class;
    private static final int LARGE = Integer.MAX_VALUE;
    private static final int SMALL = Integer.MIN_VALUE;

    private static final Check check = new Check("PromiseTest");

    public static void main(String[] args) {
        newObject();
        addWord();
        setWord();
        addRule();
        dropRule();
        say();
        change();
        hushSaidWordAt();
        readings();
        modes();
        readingsTold();
        readingsOf();
        has();
        level();
        sentences();
        sentence();
        share();
        spoil();
        changes();
        correction();
        callsThatAskChangeNothing();
        check.end();
    }

    /** Nouns 0 (value 1) and 1 (value 2), verbs 2 (value 1) and 3 (any); noun and verb agree. */
    private static SentenceGym nounsAndVerbs() {
        SentenceGym gym = new SentenceGym();
        gym.addWord(1, 1, 0);
        gym.addWord(1, 2, 0);
        gym.addWord(2, 1, 3);
        gym.addWord(2, 0, 0);
        gym.addRule(0, 1, 2, 20);
        return gym;
    }

    private static SentenceGym say(SentenceGym gym, int... words) {
        gym.hush();
        for (int word : words) {
            gym.say(word);
        }
        return gym;
    }

    private static void newObject() {
        SentenceGym gym = new SentenceGym();
        check.equal("NONE", SentenceGym.NONE, -1);
        check.equal("new: said", gym.said(), 0);
        check.throwsJust("new: say", INDEX, () -> gym.say(0));
        check.throwsJust("new: dropRule", STATE, gym::dropRule);
        check.equal("new: readings", gym.readings(), 0);
        check.equal("new: readingsPlainly", gym.readingsPlainly(), 0);
        check.equal("new: level", gym.level(), -1);
        check.equal("new: changes", gym.changes(), -1);
        check.equal("new: addWord", gym.addWord(0, 0, 0), 0);
        check.equal("new: addRule", gym.addRule(0, 0, 0, 0), 0);
        SentenceGym other = new SentenceGym();
        check.equal("new: objects apart", other.addWord(1, 1, 1), 0);
    }

    private static void addWord() {
        SentenceGym gym = new SentenceGym();
        for (int wrong : new int[] {-1, 8, LARGE, SMALL}) {
            check.throwsJust("addWord: category " + wrong, ARGUMENT, () -> gym.addWord(wrong, 0, 0));
        }
        for (int wrong : new int[] {-1, 4, LARGE, SMALL}) {
            check.throwsJust("addWord: first " + wrong, ARGUMENT, () -> gym.addWord(0, wrong, 0));
            check.throwsJust("addWord: second " + wrong, ARGUMENT, () -> gym.addWord(0, 0, wrong));
        }
        for (int word = 0; word < 9; word++) {
            check.equal("addWord: number", gym.addWord(word % 8, word % 4, 3 - word % 4), word);
        }
        check.throwsJust("addWord: a tenth", STATE, () -> gym.addWord(0, 0, 0));
        check.throwsJust("addWord: wrong and a tenth", ARGUMENT, () -> gym.addWord(8, 0, 0));
        check.equal("addWord: last", gym.say(8), 1);
        check.throwsJust("addWord: none behind", INDEX, () -> gym.say(9));
        gym.hush();
        for (int word = 0; word < 6; word++) {
            gym.say(word);
            int values = 10 * (word % 4) + 3 - word % 4;
            int at = word;
            check.isTrue("addWord: kept", gym.has(at, at + 1, word % 8, values));
        }
    }

    private static void setWord() {
        SentenceGym gym = say(nounsAndVerbs(), 0, 2);
        check.throwsJust("setWord: -1", INDEX, () -> gym.setWord(-1, 0, 0, 0));
        check.throwsJust("setWord: 4", INDEX, () -> gym.setWord(4, 0, 0, 0));
        check.throwsJust("setWord: both wrong", INDEX, () -> gym.setWord(4, 8, 0, 0));
        check.throwsJust("setWord: large", INDEX, () -> gym.setWord(LARGE, 0, 0, 0));
        check.throwsJust("setWord: category 8", ARGUMENT, () -> gym.setWord(3, 8, 0, 0));
        check.throwsJust("setWord: category -1", ARGUMENT, () -> gym.setWord(3, -1, 0, 0));
        check.throwsJust("setWord: first 4", ARGUMENT, () -> gym.setWord(0, 0, 4, 0));
        check.throwsJust("setWord: second -1", ARGUMENT, () -> gym.setWord(0, 0, 0, -1));
        check.equal("setWord: nothing changed", gym.readings(), 1);
        check.equal("setWord: before", gym.setWord(0, 1, 3, 0), 1);
        check.equal("setWord: the row feels it", gym.readings(), 0);
        check.equal("setWord: another category", gym.setWord(0, 7, 1, 0), 1);
        check.equal("setWord: before again", gym.setWord(0, 1, 1, 0), 7);
        check.equal("setWord: as at first", gym.readings(), 1);
    }

    private static void addRule() {
        SentenceGym gym = new SentenceGym();
        for (int wrong : new int[] {-1, 8, LARGE, SMALL}) {
            check.throwsJust("addRule: made " + wrong, ARGUMENT, () -> gym.addRule(wrong, 0, 0, 0));
            check.throwsJust("addRule: first " + wrong, ARGUMENT, () -> gym.addRule(0, wrong, 0, 0));
            check.throwsJust("addRule: second " + wrong, ARGUMENT, () -> gym.addRule(0, 0, wrong, 0));
        }
        for (int wrong : new int[] {-1, -10, 4, 9, 14, 29, 34, 40, 100, 103, LARGE, SMALL}) {
            check.throwsJust("addRule: modes " + wrong, ARGUMENT, () -> gym.addRule(0, 0, 0, wrong));
        }
        for (int rule = 0; rule < 8; rule++) {
            check.equal("addRule: number", gym.addRule(7, rule, 7 - rule, 33), rule);
        }
        check.throwsJust("addRule: a ninth", STATE, () -> gym.addRule(0, 0, 0, 0));
        check.throwsJust("addRule: wrong and a ninth", ARGUMENT, () -> gym.addRule(0, 0, 0, 4));
        gym.dropRule();
        check.equal("addRule: number again", gym.addRule(0, 0, 0, 0), 7);
    }

    private static void dropRule() {
        SentenceGym gym = say(nounsAndVerbs(), 0, 2);
        gym.addRule(1, 1, 1, 0);
        check.equal("dropRule: left", gym.dropRule(), 1);
        check.equal("dropRule: the first stays", gym.readings(), 1);
        check.equal("dropRule: none left", gym.dropRule(), 0);
        check.equal("dropRule: the row feels it", gym.readings(), 0);
        check.throwsJust("dropRule: none", STATE, gym::dropRule);
        check.equal("dropRule: number", gym.addRule(0, 1, 2, 33), 0);
        check.equal("dropRule: a rule anew", gym.readingsPlainly(), 1);
    }

    private static void say() {
        SentenceGym gym = nounsAndVerbs();
        check.throwsJust("say: -1", INDEX, () -> gym.say(-1));
        check.throwsJust("say: 4", INDEX, () -> gym.say(4));
        check.throwsJust("say: large", INDEX, () -> gym.say(LARGE));
        for (int i = 0; i < 6; i++) {
            check.equal("say: length", gym.say(i % 4), i + 1);
            check.equal("say: word", gym.wordAt(i), i % 4);
        }
        check.throwsJust("say: a seventh", STATE, () -> gym.say(0));
        check.throwsJust("say: wrong and a seventh", INDEX, () -> gym.say(4));
        check.equal("say: still six", gym.said(), 6);
    }

    private static void change() {
        SentenceGym gym = say(nounsAndVerbs(), 0, 2);
        check.equal("change: before", gym.change(0, 1), 0);
        check.equal("change: word", gym.wordAt(0), 1);
        check.equal("change: other place", gym.wordAt(1), 2);
        check.equal("change: to itself", gym.change(0, 1), 1);
        for (int wrong : new int[] {-1, 2, LARGE, SMALL}) {
            check.throwsJust("change: place " + wrong, INDEX, () -> gym.change(wrong, 0));
        }
        for (int wrong : new int[] {-1, 4, LARGE, SMALL}) {
            check.throwsJust("change: word " + wrong, INDEX, () -> gym.change(0, wrong));
        }
        check.equal("change: nothing changed", gym.wordAt(0), 1);
    }

    private static void hushSaidWordAt() {
        SentenceGym gym = nounsAndVerbs();
        check.equal("hush: empty", gym.hush(), 0);
        say(gym, 3, 2, 1);
        check.equal("said", gym.said(), 3);
        check.equal("wordAt 0", gym.wordAt(0), 3);
        check.equal("wordAt 2", gym.wordAt(2), 1);
        for (int wrong : new int[] {-1, 3, 6, LARGE, SMALL}) {
            check.throwsJust("wordAt " + wrong, INDEX, () -> gym.wordAt(wrong));
        }
        check.equal("hush", gym.hush(), 3);
        check.equal("hush: said", gym.said(), 0);
        check.throwsJust("hush: wordAt", INDEX, () -> gym.wordAt(0));
        check.equal("hush: readings", gym.readings(), 0);
        check.equal("hush: words stay", gym.say(3), 1);
    }

    private static void readings() {
        SentenceGym gym = nounsAndVerbs();
        bothWays("agree", say(gym, 0, 2), 1);
        bothWays("do not agree", say(gym, 1, 2), 0);
        bothWays("any", say(gym, 1, 3), 1);
        bothWays("wrong order", say(gym, 2, 0), 0);
        bothWays("no sentence alone", say(gym, 0), 0);
        gym.addRule(1, 1, 1, 33);
        bothWays("two trees", say(gym, 0, 1, 0, 3), 2);
        bothWays("two trees, any", say(gym, 0, 1, 0, 2), 2);
        bothWays("five trees", say(gym, 0, 1, 0, 1, 2), 5);
        gym.addRule(1, 1, 1, 33);
        bothWays("rules apart though alike", say(gym, 0, 1, 2), 2);
        gym.addWord(0, 3, 3);
        bothWays("a word that is a sentence", say(gym, 4), 1);
    }

    private static void bothWays(String what, SentenceGym gym, int due) {
        check.equal("readings: " + what, gym.readings(), due);
        check.equal("readingsPlainly: " + what, gym.readingsPlainly(), due);
    }

    /** Every mode on every two values, on each feature, behind all modes of the other one. */
    private static void modes() {
        for (int mode = 0; mode < 4; mode++) {
            for (int one = 0; one < 4; one++) {
                for (int other = 0; other < 4; other++) {
                    int due = mode == 0 ? one : mode == 1 ? other : 0;
                    if (mode == 2) {
                        due = one == 0 ? other : other == 0 || one == other ? one : -1;
                    }
                    SentenceGym gym = new SentenceGym();
                    gym.addWord(1, one, 2);
                    gym.addWord(2, other, 2);
                    gym.addWord(1, 3, one);
                    gym.addWord(2, 1, other);
                    gym.addRule(0, 1, 2, 10 * mode + 2);
                    String what = "mode " + mode + " of " + one + " and " + other;
                    say(gym, 0, 1);
                    bothWays(what, gym, due < 0 ? 0 : 1);
                    onlyHas(what, gym, due < 0 ? -1 : 10 * due + 2);
                    gym.dropRule();
                    gym.addRule(0, 1, 2, mode);
                    say(gym, 2, 3);
                    bothWays(what + " below", gym, due < 0 ? 0 : 1);
                    onlyHas(what + " below", gym, due < 0 ? -1 : 30 + due);
                }
            }
        }
    }

    private static void onlyHas(String what, SentenceGym gym, int due) {
        for (int values = 0; values < 34; values++) {
            if (values % 10 < 4) {
                check.equal("has: " + what + ", " + values, gym.has(0, gym.said(), 0, values) ? 1 : 0, values == due ? 1 : 0);
            }
        }
    }

    private static void readingsTold() {
        SentenceGym gym = new SentenceGym();
        gym.addWord(0, 0, 0);
        int[] trees = {1, 1, 2, 5, 14, 42};
        for (int rules = 1; rules <= 8; rules++) {
            gym.addRule(0, 0, 0, 33);
            gym.hush();
            long power = 1;
            for (int length = 1; length <= 6; length++) {
                gym.say(0);
                bothWays(rules + " rules, " + length + " words", gym, (int) Math.min(1000000, trees[length - 1] * power));
                power *= rules;
            }
        }
        check.equal("readingsOf: told", gym.readingsOf(0, 6, 0), 1000000);
        check.equal("readingsOf: not told", gym.readingsOf(1, 6, 0), 14 * 4096);
    }

    private static void readingsOf() {
        SentenceGym gym = nounsAndVerbs();
        gym.addRule(1, 1, 1, 33);
        say(gym, 0, 1, 0, 3);
        check.equal("readingsOf: whole", gym.readingsOf(0, 4, 0), 2);
        check.equal("readingsOf: part", gym.readingsOf(0, 3, 1), 2);
        check.equal("readingsOf: two", gym.readingsOf(1, 3, 1), 1);
        check.equal("readingsOf: as 0", gym.readingsOf(1, 3, 0), 0);
        check.equal("readingsOf: end", gym.readingsOf(2, 4, 0), 1);
        check.equal("readingsOf: a word", gym.readingsOf(3, 4, 2), 1);
        check.equal("readingsOf: not made", gym.readingsOf(0, 4, 7), 0);
        int[][] wrong = {{-1, 1, 0}, {0, 0, 0}, {2, 1, 0}, {0, 5, 0}, {4, 5, 0}, {0, 1, -1}, {0, 1, 8},
            {SMALL, LARGE, 0}, {0, LARGE, 0}, {LARGE, SMALL, 0}, {0, 1, LARGE}, {0, 1, SMALL}};
        for (int[] w : wrong) {
            check.throwsJust("readingsOf: wrong", INDEX, () -> gym.readingsOf(w[0], w[1], w[2]));
            check.throwsJust("has: wrong", INDEX, () -> gym.has(w[0], w[1], w[2], 0) ? 1 : 0);
            check.throwsJust("has: wrong, and values", INDEX, () -> gym.has(w[0], w[1], w[2], 99) ? 1 : 0);
        }
    }

    private static void has() {
        SentenceGym gym = say(nounsAndVerbs(), 0, 2, 1);
        check.isTrue("has: just these", gym.has(0, 2, 0, 10));
        check.isFalse("has: any is no match", gym.has(0, 2, 0, 0));
        check.isFalse("has: other", gym.has(0, 2, 0, 20));
        check.isFalse("has: other category", gym.has(0, 2, 1, 10));
        check.isTrue("has: a word", gym.has(2, 3, 1, 20));
        check.isTrue("has: a word's both values", gym.has(1, 2, 2, 13));
        for (int wrong : new int[] {-1, 4, 9, 14, 34, 40, 99, 100, LARGE, SMALL}) {
            check.throwsJust("has: values " + wrong, ARGUMENT, () -> gym.has(0, 1, 0, wrong) ? 1 : 0);
        }
        gym.addRule(0, 1, 2, 11);
        check.isTrue("has: by the first rule", gym.has(0, 2, 0, 10));
        check.isTrue("has: by the second rule", gym.has(0, 2, 0, 13));
    }

    private static void level() {
        SentenceGym gym = nounsAndVerbs();
        check.equal("level: empty", gym.level(), -1);
        check.equal("level: none", say(gym, 1, 2).level(), -1);
        check.equal("level: rule 0", say(gym, 0, 2).level(), 1);
        gym.addRule(1, 1, 1, 33);
        check.equal("level: rules 0 and 1", say(gym, 0, 1, 2).level(), 2);
        check.equal("level: rule 0 still", say(gym, 0, 2).level(), 1);
        gym.addRule(0, 1, 2, 33);
        check.equal("level: only rule 2", say(gym, 1, 2).level(), 3);
        check.equal("level: the least", say(gym, 1, 3).level(), 1);
        gym.addWord(0, 0, 0);
        check.equal("level: a word", say(gym, 4).level(), 0);
        check.equal("level: a word that is none", say(gym, 0).level(), -1);
    }

    private static void wrongLengths(String what, java.util.function.IntUnaryOperator call) {
        for (int wrong : new int[] {0, 5, -1, LARGE, SMALL}) {
            check.throwsJust(what + wrong, ARGUMENT, () -> call.applyAsInt(wrong));
        }
    }

    private static void sentences() {
        SentenceGym gym = new SentenceGym();
        wrongLengths("sentences: ", gym::sentences);
        for (int length = 1; length <= 4; length++) {
            check.equal("sentences: no words", gym.sentences(length), 0);
        }
        SentenceGym full = new SentenceGym();
        for (int word = 0; word < 9; word++) {
            full.addWord(0, 0, 0);
        }
        check.equal("sentences: of a word", full.sentences(1), 9);
        check.equal("sentences: no rule", full.sentences(2), 0);
        full.addRule(0, 0, 0, 0);
        check.equal("sentences: all of 4", full.sentences(4), 6561);
        check.equal("sentences: all of 3", full.sentences(3), 729);
        SentenceGym two = nounsAndVerbs();
        check.equal("sentences: 1", two.sentences(1), 0);
        check.equal("sentences: 2", two.sentences(2), 3);
        check.equal("sentences: 3", two.sentences(3), 0);
        two.addRule(1, 1, 1, 33);
        check.equal("sentences: 3 by two rules", two.sentences(3), 8);
        check.equal("sentences: 4 by two rules", two.sentences(4), 16);
    }

    private static void sentence() {
        SentenceGym gym = nounsAndVerbs();
        wrongLengths("sentence: ", length -> gym.sentence(length, 0));
        check.throwsJust("sentence: k -1", ARGUMENT, () -> gym.sentence(2, -1));
        check.throwsJust("sentence: k small", ARGUMENT, () -> gym.sentence(2, SMALL));
        int[] due = {902, 903, 913, -1};
        for (int k = 0; k < due.length; k++) {
            check.equal("sentence: 2, " + k, gym.sentence(2, k), due[k]);
        }
        check.equal("sentence: k large", gym.sentence(2, LARGE), -1);
        check.equal("sentence: none of 1", gym.sentence(1, 0), -1);
        gym.addRule(1, 1, 1, 33);
        check.equal("sentence: 4, first", gym.sentence(4, 0), 90002);
        check.equal("sentence: 4, last", gym.sentence(4, 15), 91113);
        check.equal("sentence: 4, behind", gym.sentence(4, 16), -1);
        check.equal("sentence: no words", new SentenceGym().sentence(4, 0), -1);
        SentenceGym full = new SentenceGym();
        for (int word = 0; word < 9; word++) {
            full.addWord(0, 0, 0);
        }
        full.addRule(0, 0, 0, 22);
        check.equal("sentence: last of all", full.sentence(4, 6560), 98888);
        check.equal("sentence: of a word", full.sentence(1, 7), 97);
    }

    private static void share() {
        SentenceGym gym = nounsAndVerbs();
        wrongLengths("share: ", length -> (int) gym.share(length));
        check.equal("share: 2", gym.share(2), 3f / 16f);
        check.equal("share: 1", gym.share(1), 0f);
        check.equal("share: no words", new SentenceGym().share(3), 0f);
        gym.addWord(0, 0, 0);
        check.equal("share: 1 of 5", gym.share(1), 1f / 5f);
        gym.addWord(1, 1, 0);
        gym.addRule(1, 1, 1, 33);
        check.equal("share: 3", gym.share(3), (float) gym.sentences(3) / 216f);
        SentenceGym full = new SentenceGym();
        for (int word = 0; word < 9; word++) {
            full.addWord(0, 0, 0);
        }
        full.addRule(0, 0, 0, 22);
        check.equal("share: all", full.share(4), 1f);
    }

    private static void spoil() {
        SentenceGym gym = say(nounsAndVerbs(), 0, 2);
        check.equal("spoil: noun", gym.spoil(0), 1);
        check.equal("spoil: verb", gym.spoil(1), -1);
        for (int wrong : new int[] {-1, 2, LARGE, SMALL}) {
            check.throwsJust("spoil: place " + wrong, INDEX, () -> gym.spoil(wrong));
        }
        check.equal("spoil: no sentence", say(gym, 1, 2).spoil(0), -1);
        check.equal("spoil: any", say(gym, 1, 3).spoil(1), 2);
        gym.addWord(1, 3, 0);
        check.equal("spoil: the lowest", say(gym, 4, 3).spoil(1), 2);
        check.equal("spoil: not itself", say(gym, 0, 3).spoil(0), -1);
        gym.hush();
        check.throwsJust("spoil: empty", INDEX, () -> gym.spoil(0));
    }

    private static void changes() {
        SentenceGym gym = nounsAndVerbs();
        check.equal("changes: none due", say(gym, 0, 2).changes(), 0);
        check.equal("changes: one", say(gym, 1, 2).changes(), 1);
        check.equal("changes: two", say(gym, 2, 0).changes(), 2);
        check.equal("changes: one word never", say(gym, 0).changes(), -1);
        check.equal("changes: three never", say(gym, 0, 2, 0).changes(), -1);
        gym.hush();
        check.equal("changes: empty", gym.changes(), -1);
        gym.addRule(0, 0, 0, 33);
        check.equal("changes: first and last of six", say(gym, 2, 2, 0, 2, 0, 0).changes(), 2);
        check.equal("changes: three of six", say(gym, 2, 2, 2, 2, 2, 2).changes(), -1);
        check.equal("changes: one of six", say(gym, 0, 2, 0, 2, 0, 0).changes(), 1);
    }

    private static void correction() {
        SentenceGym gym = say(nounsAndVerbs(), 1, 2);
        check.throwsJust("correction: -1", INDEX, () -> gym.correction(-1));
        check.throwsJust("correction: small", INDEX, () -> gym.correction(SMALL));
        check.equal("correction: place 0", gym.correction(0), 0);
        check.equal("correction: place 1", gym.correction(1), 13);
        check.equal("correction: no more", gym.correction(2), -1);
        check.equal("correction: large", gym.correction(LARGE), -1);
        say(gym, 0, 2);
        check.equal("correction: of a sentence", gym.correction(0), 13);
        check.equal("correction: not to itself", gym.correction(1), -1);
        check.equal("correction: two changes due", say(gym, 2, 0).correction(0), -1);
        gym.hush();
        check.equal("correction: empty", gym.correction(0), -1);
        check.throwsJust("correction: empty, -1", INDEX, () -> gym.correction(-1));
    }

    private static void callsThatAskChangeNothing() {
        SentenceGym gym = say(nounsAndVerbs(), 1, 2);
        gym.sentences(4);
        gym.sentence(3, 5);
        gym.share(2);
        gym.changes();
        gym.correction(1);
        gym.spoil(0);
        gym.level();
        gym.readingsPlainly();
        check.equal("asking: said", gym.said(), 2);
        check.equal("asking: first word", gym.wordAt(0), 1);
        check.equal("asking: second word", gym.wordAt(1), 2);
        bothWays("asking", gym, 0);
        check.equal("asking: again", gym.sentence(2, 2), 913);
    }
}
