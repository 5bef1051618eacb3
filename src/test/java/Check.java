import java.util.ArrayList;
import java.util.List;

/** Counts the answers of a test that are not as due, and ends it with exit code 1 if there are any. */
final class Check {
    /** A call whose answer or exception is looked at. */
    interface Call {
        long answer();
    }

    private final String title;
    private final List<String> faults = new ArrayList<>();
    private String sentence = "";
    private int checks = 0;

    Check(String title) {
        this.title = title;
    }

    /** Tells the sentence of the document that the next checks are about. */
    void about(String sentence) {
        this.sentence = "(" + sentence + ") ";
    }

    private void fault(String text) {
        faults.add(sentence + text);
    }

    void equal(String what, long got, long due) {
        checks++;
        if (got != due) {
            fault(what + " answered " + got + ", due is " + due);
        }
    }

    void equal(String what, float got, float due) {
        checks++;
        if (!(got == due)) {
            fault(what + " answered " + got + ", due is " + due);
        }
    }

    void equal(String what, Object got, Object due) {
        checks++;
        if (!due.equals(got)) {
            fault(what + " is " + got + ", due is " + due);
        }
    }

    void isTrue(String what, boolean got) {
        equal(what, got ? 1 : 0, 1);
    }

    void isFalse(String what, boolean got) {
        equal(what, got ? 1 : 0, 0);
    }

    void throwsJust(String what, Class<? extends RuntimeException> due, Call call) {
        checks++;
        String got = outcome(call);
        if (!got.equals(due.getName())) {
            fault(what + " came to " + got + ", due is " + due.getName());
        }
    }

    /** The answer as a text, or the name of the class of the exception that came. */
    static String outcome(Call call) {
        try {
            return Long.toString(call.answer());
        } catch (RuntimeException e) {
            return e.getClass().getName();
        }
    }

    void end() {
        for (int i = 0; i < faults.size() && i < 40; i++) {
            System.out.println(title + ": " + faults.get(i));
        }
        System.out.println(title + ": " + checks + " checks, " + faults.size() + " faults");
        if (!faults.isEmpty()) {
            System.exit(1);
        }
    }
}
