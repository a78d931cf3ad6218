/** Compares answers with those that are due, and ends a test with exit code 1 if one differs. */
final class Check {
    /** A call of the office, whatever it answers; a boolean counts 1 or 0. */
    interface Call {
        long answer();
    }

    private static final String ANSWERED = "answered ";

    private final String test;
    private int checks = 0;
    private int wrong = 0;
    private String promise = "";

    Check(String test) {
        this.test = test;
    }

    /** Names the promise that the checks from here on are about. */
    void promise(String name) {
        promise = name;
    }

    void due(String call, long want, long got) {
        compare(call, ANSWERED + want, ANSWERED + got);
    }

    void due(String call, boolean want, boolean got) {
        compare(call, ANSWERED + want, ANSWERED + got);
    }

    void due(String call, double want, double got) {
        compare(call, ANSWERED + want, ANSWERED + got);
    }

    void noSuch(DraftsmanOffice office, String call, Call made) {
        refused(office, call, "throws IndexOutOfBoundsException", made);
    }

    void noArgument(DraftsmanOffice office, String call, Call made) {
        refused(office, call, "throws IllegalArgumentException", made);
    }

    void noState(DraftsmanOffice office, String call, Call made) {
        refused(office, call, "throws IllegalStateException", made);
    }

    /** A call that throws changes nothing. */
    private void refused(DraftsmanOffice office, String call, String want, Call made) {
        long before = office.digest();
        compare(call, want, outcome(made));
        compare(call + " leaves the digest", ANSWERED + before, ANSWERED + office.digest());
    }

    void compare(String call, String want, String got) {
        checks++;
        if (!want.equals(got)) {
            wrong++;
            System.out.println(test + ", " + promise + ": " + call + " " + got + ", due is: " + want);
        }
    }

    /** What a call answers, or the exception's own class that it throws (no class below it). */
    static String outcome(Call made) {
        try {
            return ANSWERED + made.answer();
        } catch (RuntimeException e) {
            return "throws " + e.getClass().getSimpleName();
        }
    }

    static long number(boolean answer) {
        return answer ? 1 : 0;
    }

    void end() {
        System.out.println(test + ": " + checks + " checks, " + wrong + " wrong");
        if (wrong > 0 || checks == 0) {
            System.exit(1);
        }
    }
}
