/** Puts texts on the tape of an object, as the tests need them. */
final class Texts {
    private Texts() {
    }

    static void feed(RunCuts x, String text) {
        for (int i = 0; i < text.length(); i++) {
            x.feed(text.charAt(i));
        }
    }

    static int read(RunCuts x, int c, String text) {
        feed(x, text);
        return x.read(c);
    }

    static int tell(RunCuts x, String text) {
        feed(x, text);
        return x.tell();
    }
}
