import java.util.function.Consumer;

/** One sentence of the document that names a boundary, with a test of its own. */
final class Sentence {
    private final Check check;
    private final String text;

    private Sentence(Check check, String text) {
        this.check = check;
        this.text = text;
    }

    /** Runs a test; what it throws is its own failure, so that the other tests run all the same. */
    static void holds(Check check, String text, Consumer<Sentence> test) {
        try {
            test.accept(new Sentence(check, text));
        } catch (RuntimeException e) {
            check.due(text + ": threw " + e, true, false);
        }
    }

    /** A new log for at most 512 calls. */
    Run log() {
        return Run.within512(check, text);
    }

    /** A new log with groups of one row with one byte, 100 on: 18 bytes each in a file. */
    Run logWith(int... seconds) {
        return log().groups(seconds);
    }

    /** A new log for more calls than the document speaks of. */
    Run longLog() {
        return Run.beyond512(check, text);
    }

    void due(String what, long got, long want) {
        check.due(text + ": " + what, got, want);
    }
}
