/** Counts answers that are not as due, for the tests of this project. */
final class Answers {
    static final int BEYOND = -1000001;
    static final int NONE = -1000002;
    static final int STATE = -1000003;
    static final int FULL = -1000004;
    static final int KIND = -1000005;
    static final int PARTED = -1000006;

    private int asked;
    private int wrong;

    void due(String what, long got, long want) {
        asked++;
        if (got != want) {
            wrong++;
            System.out.println(what + " answered " + got + ", due is " + want);
        }
    }

    /** Puts a text on THE TAPE, eight bytes at a time. */
    static int write(KnockTable t, String text) {
        int last = 0;
        for (int at = 0; at < text.length(); at += 8) {
            long word = 0;
            int n = Math.min(8, text.length() - at);
            for (int i = n - 1; i >= 0; i--) {
                word = word << 8 | text.charAt(at + i) & 255;
            }
            last = t.feed(word, n);
        }
        return last;
    }

    static int treaty(KnockTable t, String text, int use, int day) {
        write(t, text);
        return t.treaty(use, day);
    }

    void end(String test) {
        System.out.println(test + ": " + asked + " answers, " + wrong + " not as due");
        if (wrong != 0) {
            System.exit(1);
        }
    }
}
