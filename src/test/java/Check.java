/** Counts the answers that are not due, and tells them. */
final class Check {
    private final String test;
    private String about = "";
    private int asked;
    private int wrong;

    Check(String test) {
        this.test = test;
    }

    /** Names what the answers that follow are about, such as a promise. */
    void about(String what) {
        about = what;
    }

    int asked() {
        return asked;
    }

    void due(String call, int got, int want) {
        asked++;
        if (got != want) {
            wrong++;
            System.out.println(test + ", " + about + ": " + call + " answered " + got + ", due is " + want);
        }
    }

    void end() {
        System.out.println(test + ": " + asked + " answers, " + wrong + " not as due");
        if (wrong != 0 || asked == 0) {
            System.exit(1);
        }
    }
}
