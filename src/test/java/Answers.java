import java.lang.reflect.Method;
import java.util.List;
import java.util.function.Supplier;
import java.util.function.ToIntFunction;

/** What the tests share: answers that are due, calls that must be refused, and the run of a class's tests. */
class Answers {
    static final int BEYOND = -1000001;
    static final int NONE = -1000002;
    static final int STATE = -1000003;
    static final int FULL = -1000004;
    static final int KIND = -1000005;
    static final int PARTED = -1000006;
    static final int MIN = Integer.MIN_VALUE;
    static final int MAX = Integer.MAX_VALUE;

    private static String test = "";
    private static int asked;
    private static int wrong;

    static void due(String what, long got, long want) {
        asked++;
        if (got != want) {
            wrong++;
            System.out.println(test + ": " + what + " answered " + got + ", due is " + want);
        }
    }

    static void holds(String what, boolean is) {
        due(what, is ? 1 : 0, 1);
    }

    /**
     * Of two tables made alike one is asked for what must be refused: told() counts that error, once, and all else that
     * calls can show of the two is alike.
     */
    static void refused(String what, int error, Supplier<KnockTable> made, ToIntFunction<KnockTable> act) {
        KnockTable asks = made.get();
        KnockTable rests = made.get();
        due(what, act.applyAsInt(asks), error);
        for (int k = 1; k <= 6; k++) {
            due(what + ", told " + k, asks.told(k) - rests.told(k), -1000000 - k == error ? 1 : 0);
        }
        List<Integer> is = Looks.look(asks);
        List<Integer> was = Looks.look(rests);
        holds(what + " changes nothing, but " + was + " became " + is, is.equals(was));
    }

    /** refused() on a table with some of everything. */
    static void beyond(String what, ToIntFunction<KnockTable> act) {
        refused(what, BEYOND, Looks::some, act);
    }

    /** Puts a text on THE TAPE, eight bytes at a time. */
    static int write(KnockTable t, String text) {
        int last = 0;
        for (int at = 0; at < text.length(); at += 8) {
            long word = 0;
            int n = Math.min(8, text.length() - at);
            for (int i = n - 1; i >= 0; i--) {
                word = word << 8 | text.charAt(at + i) & 255;
            }
            last = t.feed(word, n);
        }
        return last;
    }

    static int treaty(KnockTable t, String text, int use, int day) {
        write(t, text);
        return t.treaty(use, day);
    }

    /** Runs all tests of a class (methods named by the promise that they are of), each of which makes its own tables. */
    static void run(Class<?> tests) throws ReflectiveOperationException {
        int n = 0;
        for (Method m : tests.getDeclaredMethods()) {
            if (m.getName().startsWith("promise")) {
                test = m.getName();
                m.setAccessible(true);
                m.invoke(null);
                n++;
            }
        }
        System.out.println(tests.getName() + ": " + n + " tests, " + asked + " answers, " + wrong + " not as due");
        if (wrong != 0 || n == 0) {
            System.exit(1);
        }
    }
}
