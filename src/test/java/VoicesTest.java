/** Promises 31 and 32: voices of entries, and THE TRACE. */
public final class VoicesTest {
    private static final Answers A = new Answers();
    private static final int MIN = Integer.MIN_VALUE;
    private static final int MAX = Integer.MAX_VALUE;

    /** Entry 0: a dent, 1: held, 2: again, 3: a loss (of car 2); all of one month. */
    private static KnockTable kinds(int month) {
        KnockTable t = new KnockTable();
        t.car(0, 99999, 0, 0);
        t.car(1, 99999, 0, 0);
        t.car(2, 100, 0, 0);
        t.zone(0, 0, 1000);
        t.crash(1, 0, 257);
        t.crash(201, 0, 257);
        t.enter(0, 0, 1, 1000 * month);
        t.enter(0, 1, 9999, 1000 * month);
        t.enter(0, 0, 1, 1000 * month);
        t.enter(1, 0, 1, 1000 * month);
        int[] due = {1, 3, 4, 2};
        for (int i = 0; i < 4; i++) {
            A.due("31: kind of " + i, t.entryIs(i, 7), due[i]);
        }
        return t;
    }

    private static void speaks(int month, int entry, int act, int x, int due, int... bodies) {
        KnockTable t = kinds(month);
        String what = " entry " + entry + " act " + act + " of " + x;
        A.due("31:" + what, t.voice(entry, act, x), due);
        A.due("32: bodies of" + what, t.count(8), bodies.length);
        for (int i = 0; i < bodies.length; i++) {
            A.due("32: body " + i + " of" + what, t.trace(i), bodies[i]);
        }
        A.due("32: no more of" + what, t.trace(bodies.length), Answers.NONE);
        A.due("31: parted", t.told(6), due == Answers.PARTED ? 1 : 0);
    }

    private static void dent() {
        speaks(9, 0, 0, 7, 16, 10);
        speaks(9, 0, 1, 7, 33, 20, 11, 10);
        speaks(9, 0, 2, 7, 33, 12, 20, 11, 10);
        speaks(9, 0, 3, 20, 2 + 21, 21, 13, 12, 20, 11, 10);
        speaks(0, 0, 3, 20, Answers.PARTED, 21, 13);
    }

    private static void held() {
        speaks(9, 1, 0, 7, -16, 40, 10);
        speaks(9, 1, 1, 7, -32, 11, 40, 10);
        speaks(9, 1, 2, 7, -34 - 1, 41, 12, 11, 40, 10);
        speaks(9, 1, 3, -20, -2, 13);
        speaks(1, 1, 3, 0, Answers.PARTED, 13);
        speaks(0, 1, 3, MIN, MIN, 13);
    }

    private static void again() {
        speaks(9, 2, 0, 7, -16, 40, 10);
        speaks(9, 2, 1, 8, -17, 50, 11, 40, 10);
        // holds: 41 hands 9 to 12: shows(9) is -18, less 2; less asks(2), -11
        speaks(9, 2, 2, 7, -20 + 11, 51, 41, 12, 50, 11, 40, 10, 40, 10);
        speaks(9, 2, 3, 15, -24 - 2, 52, 40, 10, 13);
        speaks(2, 2, 3, 15, Answers.PARTED, 52, 40, 10, 13);
    }

    private static void loss() {
        speaks(9, 3, 0, 7, 48, 30, 10);
        speaks(9, 3, 1, 7, 97, 20, 11, 30, 10);
        speaks(9, 3, 2, 7, 94 ^ 9, 31, 12, 20, 11, 30, 10);
        // holds(1) is (61 - 3) ^ 9
        speaks(9, 3, 3, 20, 3 + (58 ^ 9), 21, 13, 31, 12, 20, 11, 30, 10);
        speaks(3, 3, 3, 20, Answers.PARTED, 21, 13);
    }

    private static void edges() {
        speaks(9, 0, 0, MAX, MIN + 8, 10);
        speaks(9, 0, 1, MAX, 17, 20, 11, 10);
        speaks(9, 1, 0, MIN + 23, MAX - 31, 40, 10);
        speaks(0, 1, 0, Answers.PARTED, 1000006, 40, 10);
        speaks(0, 1, 0, 1000001, Answers.BEYOND, 40, 10);
        KnockTable t = kinds(9);
        A.due("32: none yet", t.trace(0), Answers.NONE);
        t.voice(0, 1, 1);
        int[][] wrong = {{4, 0}, {-1, 0}, {0, 4}, {0, -1}, {MIN, MAX}};
        for (int[] w : wrong) {
            A.due("31: wrong", t.voice(w[0], w[1], 0), Answers.BEYOND);
        }
        A.due("32: the trace stays", t.count(8), 3);
        A.due("32: below", t.trace(-1), Answers.NONE);
        A.due("32: wild", t.trace(MAX), Answers.NONE);
        A.due("32: wild", t.trace(MIN), Answers.NONE);
        t.voice(0, 0, 1);
        A.due("32: the latest only", t.count(8), 1);
        A.due("31: as low as an error", kinds(0).voice(1, 0, 1000006), Answers.PARTED);
        KnockTable low = kinds(0);
        low.voice(1, 0, 1000006);
        A.due("31: which isn't one", low.told(6), 0);
    }

    public static void main(String[] args) {
        dent();
        held();
        again();
        loss();
        edges();
        A.end("VoicesTest");
    }
}
