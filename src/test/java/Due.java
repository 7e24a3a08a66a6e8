/** Counts the answers that are not as due, and ends a test with exit code 1 if there was one. */
final class Due {
    private final String test;
    private String about = "";
    private int wrong = 0;
    private int asked = 0;

    Due(String test) {
        this.test = test;
    }

    /** What the next lines are about: a promise, and which side of it. */
    void about(String words) {
        about = words;
    }

    void is(int want, int got) {
        asked++;
        if (got != want) {
            wrong++;
            StackTraceElement at = new Throwable().getStackTrace()[1];
            System.out.println(test + ", " + about + ", line " + at.getLineNumber() + ": answered " + got
                    + ", due is " + want);
        }
    }

    void end() {
        System.out.println(test + ": " + (asked - wrong) + " of " + asked + " answers are as due");
        if (wrong != 0) {
            System.exit(1);
        }
    }
}
