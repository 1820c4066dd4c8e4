/** Counts the calls whose answer is not the one that is due. */
final class Due {
    private int wrong = 0;
    private int asked = 0;
    private String under = "";

    void under(String heading) {
        under = heading;
    }

    void is(String call, long got, long want) {
        asked++;
        if (got != want) {
            wrong++;
            System.out.println(under + ": " + call + " answered " + got + ", due is " + want);
        }
    }

    void isTrue(String what, boolean is) {
        is(what, is ? 1 : 0, 1);
    }

    int wrong() {
        return wrong;
    }

    /** Ends the program with exit code 1, if an answer was wrong. */
    void end() {
        System.out.println(wrong == 0 ? asked + " answers are as due" : wrong + " of " + asked + " answers are not as due");
        if (wrong != 0) {
            System.exit(1);
        }
    }
}
