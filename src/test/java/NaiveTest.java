import java.util.Random;

/** Runs of calls, the same ones on SentenceGym and on the naive one, whose answers must be the same. */
public final class NaiveTest {
    private static final int CALLS = 120;

    private final Check check = new Check("NaiveTest");
    private Random random;
    private SentenceGym gym;
    private NaiveGym naive;
    private int categories;
    /** Whether both parts must agree in feature 0 in every rule, so that there are words that spoil. */
    private boolean agreeing;
    private String run;

    public static void main(String[] args) {
        NaiveTest test = new NaiveTest();
        for (int seed = 0; seed < 800; seed++) {
            test.runFrom(seed);
        }
        test.check.end();
    }

    private void runFrom(int seed) {
        run = "run " + seed + ": ";
        random = new Random(seed);
        gym = new SentenceGym();
        naive = new NaiveGym();
        agreeing = seed % 3 == 1;
        categories = 1 + random.nextInt(agreeing ? 2 : 4);
        int most = 1 + random.nextInt(seed % 10 == 0 ? 9 : 4);
        for (int i = 0; i < most; i++) {
            addWord();
        }
        most = random.nextInt(mostRules());
        for (int i = 0; i < most; i++) {
            addRule();
        }
        for (int i = 0; i < CALLS; i++) {
            callAny(seed % 10 == 0);
        }
    }

    /** Mostly below a bound, at times just outside. */
    private int below(int bound) {
        return random.nextInt(30) == 0 ? (random.nextBoolean() ? -1 : bound) : random.nextInt(Math.max(1, bound));
    }

    private int digitPair() {
        return random.nextInt(30) == 0 ? random.nextInt(60) - 10 : 10 * random.nextInt(4) + random.nextInt(4);
    }

    private int category() {
        return random.nextInt(40) == 0 ? below(8) : random.nextInt(categories);
    }

    private void same(String call, Check.Call got, Check.Call due) {
        check.equal(run + call, Check.outcome(got), Check.outcome(due));
    }

    private void addWord() {
        int c = category();
        int v = below(4);
        int w = below(4);
        same("addWord", () -> gym.addWord(c, v, w), () -> naive.addWord(c, v, w));
    }

    /** Many rules over few categories have more readings than the naive one can make. */
    private int mostRules() {
        return categories == 1 ? 3 : agreeing ? 4 : 8;
    }

    private void addRule() {
        int made = category();
        int one = category();
        int other = category();
        int modes = agreeing ? 20 + random.nextInt(4) : digitPair();
        if (naive.rules.size() < mostRules()) {
            same("addRule", () -> gym.addRule(made, one, other, modes), () -> naive.addRule(made, one, other, modes));
        }
    }

    private void setWord() {
        int word = below(naive.words.size());
        int c = category();
        int v = below(4);
        int w = below(4);
        same("setWord", () -> gym.setWord(word, c, v, w), () -> naive.setWord(word, c, v, w));
    }

    private void callAny(boolean large) {
        int word = below(naive.words.size());
        int place = below(naive.row.size());
        int k = random.nextInt(8) == 0 ? random.nextInt(400) - 1 : random.nextInt(6);
        int length = random.nextInt(large ? 60 : 12) == 0 ? random.nextInt(6) : 1 + random.nextInt(large ? 2 : 3);
        switch (random.nextInt(24)) {
            case 0: addWord(); break;
            case 1: setWord(); break;
            case 2: addRule(); break;
            case 3: if (random.nextInt(4) == 0) same("dropRule", gym::dropRule, naive::dropRule); break;
            case 4: if (random.nextInt(6) == 0) same("hush", gym::hush, naive::hush); break;
            case 5: case 6: case 7: case 8: same("say", () -> gym.say(word), () -> naive.say(word)); break;
            case 9: case 10: same("change", () -> gym.change(place, word), () -> naive.change(place, word)); break;
            case 11: same("said", gym::said, naive::said); break;
            case 12: same("wordAt", () -> gym.wordAt(place), () -> naive.wordAt(place)); break;
            case 13: same("readings", gym::readings, naive::readings); break;
            case 14: same("readingsPlainly", gym::readingsPlainly, naive::readings); break;
            case 15: case 16: spans(); break;
            case 17: same("level", gym::level, naive::level); break;
            case 18: same("sentences", () -> gym.sentences(length), () -> naive.sentences(length)); break;
            case 19: same("sentence", () -> gym.sentence(length, k), () -> naive.sentence(length, k)); break;
            case 20: same("share", () -> Float.floatToIntBits(gym.share(length)),
                    () -> Float.floatToIntBits(naive.share(length))); break;
            case 21: same("spoil", () -> gym.spoil(place), () -> naive.spoil(place)); break;
            case 22: same("changes", gym::changes, naive::changes); break;
            default: same("correction", () -> gym.correction(k), () -> naive.correction(k)); break;
        }
    }

    private void spans() {
        int from = below(naive.row.size());
        int to = random.nextInt(30) == 0 ? random.nextInt(9) - 1 : from + 1 + random.nextInt(3);
        int c = category();
        int values = digitPair();
        same("readingsOf", () -> gym.readingsOf(from, to, c), () -> naive.readingsOf(from, to, c));
        same("has", () -> gym.has(from, to, c, values) ? 1 : 0, () -> naive.has(from, to, c, values) ? 1 : 0);
    }
}
