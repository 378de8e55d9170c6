import java.io.IOException;

/** What the tests of the boundary cases have in common: sentences, checks, refused calls. */
final class Bounds {
    static final int LEAST = Integer.MIN_VALUE;
    static final int GREATEST = Integer.MAX_VALUE;
    static final String ARGUMENT = "java.lang.IllegalArgumentException";
    static final String STATE = "java.lang.IllegalStateException";

    private final Checks checks = new Checks();
    private final Sentences sentences;
    /** Where most calls are refused. */
    final Scene busy = Scene.busy("=A1+7", "");

    Bounds() throws IOException {
        sentences = new Sentences(checks);
    }

    interface OfNumber {
        Object answer(CalculatedSheet sheet, int number);
    }

    /** The sentence of the terms that the next checks hold the class to. */
    void terms(String sentence) {
        sentences.name(Sentences.TERMS, sentence);
    }

    /** A sentence that stands at the document's beginning. */
    void whatItIs(String sentence) {
        sentences.name(Sentences.WHAT_IT_IS, sentence);
    }

    void promise(int promise, String sentence) {
        sentences.name(promise, sentence);
    }

    void due(Object want, Object got, String what) {
        checks.due(want, got, what);
    }

    void yes(boolean got, String what) {
        checks.yes(got, what);
    }

    void no(boolean got, String what) {
        checks.no(got, what);
    }

    void refuses(String exception, Scene scene, Scene.Call call, String what) {
        due(exception, scene.outcome(call), what);
        due("", scene.changedBy(call), what + " that throws changes nothing");
    }

    void refusesArgument(Scene.Call call, String what) {
        refuses(ARGUMENT, busy, call, what);
    }

    void refusesState(Scene.Call call, String what) {
        refuses(STATE, busy, call, what);
    }

    /** The least and the greatest number are taken, the next ones beyond, and the farthest ones, are refused. */
    void limits(int promise, String sentence, int least, int greatest, OfNumber call) {
        promise(promise, sentence);
        for (int number : new int[] {least, greatest}) {
            no(ARGUMENT.equals(busy.outcome(sheet -> call.answer(sheet, number))), "refuses " + number);
        }
        for (long number : new long[] {least - 1L, greatest + 1L, LEAST, GREATEST}) {
            if (number >= LEAST && number <= GREATEST && (number < least || number > greatest)) {
                refusesArgument(sheet -> call.answer(sheet, (int) number), "the call with " + number);
            }
        }
    }

    void cells(int promise, String sentence, OfNumber call) {
        limits(promise, sentence, 0, 199, call);
    }

    void places(int promise, String sentence, OfNumber call) {
        limits(promise, sentence, 0, GREATEST, call);
    }

    void end() {
        sentences.end();
        checks.end();
    }
}
