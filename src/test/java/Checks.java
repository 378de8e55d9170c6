/** Counts and prints what is not as it is due. */
final class Checks {
    private int made = 0;
    private int wrong = 0;
    private String topic = "";

    interface Call {
        Object answer();
    }

    void about(String topic) {
        this.topic = topic;
    }

    void due(Object want, Object got, String what) {
        made++;
        if (!want.equals(got)) {
            wrong++;
            System.out.println(topic + ": " + what + ": " + got + ", due is " + want);
        }
    }

    void yes(boolean got, String what) {
        due(true, got, what);
    }

    void no(boolean got, String what) {
        due(false, got, what);
    }

    /** The answer as a text, or what was thrown instead. */
    static String outcome(Call call) {
        try {
            return String.valueOf(call.answer());
        } catch (RuntimeException thrown) {
            return thrown.getClass().getName();
        }
    }

    void refusesArgument(Call call, String what) {
        due("java.lang.IllegalArgumentException", outcome(call), what);
    }

    void refusesState(Call call, String what) {
        due("java.lang.IllegalStateException", outcome(call), what);
    }

    /** Ends the program with the exit code that the tests' runner looks at. */
    void end() {
        System.out.println(made + " checks, " + wrong + " wrong");
        System.exit(wrong == 0 && made > 0 ? 0 : 1);
    }
}
