/** Promises 33 to 35: sheets, looked at through chains, as no call tells a number of a sheet. */
public final class SheetsTest {
    private static final Answers A = new Answers();
    private static final int MIN = Integer.MIN_VALUE;
    private static final int MAX = Integer.MAX_VALUE;

    private static boolean is(KnockTable t, int sheet, int at, int bits, int v) {
        // number `at` as the front of car 0 and v as the back of car 1, which nothing else lets follow
        t.sheet(3, bits, 4);
        t.put(3, 0, 100);
        t.put(3, 1, 100);
        t.put(3, 2, 0);
        t.put(3, 3, v);
        int moved = t.move(sheet, at, 3, 0, 1);
        int orders = t.chain(3, 0, 0);
        return moved == 1 && orders == 1 && t.chain(3, 0, 1) == 0;
    }

    private static void promise33Sheet() {
        KnockTable t = new KnockTable();
        A.due("33: sheet", t.sheet(-1, 8, 1), Answers.BEYOND);
        A.due("33: sheet", t.sheet(4, 8, 1), Answers.BEYOND);
        A.due("33: sheet, missing too", t.sheet(4, 0, 1), Answers.BEYOND);
        for (int bits : new int[] {-8, 1, 7, 9, 24, 31, 33, 64, MIN, MAX}) {
            A.due("33: bits " + bits, t.sheet(0, bits, 1), Answers.BEYOND);
        }
        A.due("33: bits ahead of n", t.sheet(0, 9, -1), Answers.BEYOND);
        A.due("33: sheet ahead of n", t.sheet(4, 8, -1), Answers.BEYOND);
        A.due("33: n below 0", t.sheet(0, 8, -1), Answers.STATE);
        A.due("33: n below 0", t.sheet(0, 8, MIN), Answers.STATE);
        A.due("33: n above", t.sheet(0, 8, 25), Answers.BEYOND);
        A.due("33: n above", t.sheet(0, 8, MAX), Answers.BEYOND);
        A.due("33: still missing", t.put(0, 0, 0), Answers.NONE);
        A.due("33: the most", t.sheet(0, 32, 24), 1);
        A.due("33: its last", t.put(0, 23, 5), 1);
        A.due("33: no error changes it", t.sheet(0, 8, -1), Answers.STATE);
        A.due("33: its last", is(t, 0, 23, 32, 5) ? 1 : 0, 1);
        A.due("33: anew", t.sheet(0, 32, 24), 1);
        A.due("33: all 0", is(t, 0, 23, 32, 5) ? 1 : 0, 0);
        A.due("33: all 0", is(t, 0, 23, 32, 0) ? 1 : 0, 1);
        A.due("33: empty", t.sheet(0, 16, 0), 1);
        A.due("33: no number", t.put(0, 0, 0), Answers.BEYOND);
        A.due("33: missing", t.sheet(0, 0, MIN), 1);
        A.due("33: missing", t.put(0, 0, 0), Answers.NONE);
        A.due("33: missing, n doesn't matter", t.sheet(0, 0, MAX), 1);
    }

    private static void promise34Put() {
        KnockTable t = new KnockTable();
        A.due("34: sheet", t.put(4, 0, 0), Answers.BEYOND);
        A.due("34: sheet", t.put(-1, 0, 0), Answers.BEYOND);
        A.due("34: missing is ahead of the number", t.put(0, -1, 0), Answers.NONE);
        int[] bits = {8, 16, 32};
        int[][] cut = {{127, 127}, {128, -128}, {255, -1}, {256, 0}, {-129, 127}, {MIN, 0}, {MAX, -1}};
        int[][] cut16 = {{32767, 32767}, {32768, -32768}, {65535, -1}, {65536, 0}, {-32769, 32767}, {MIN, 0}, {MAX, -1}};
        int[][] whole = {{MIN, MIN}, {MAX, MAX}, {65536, 65536}, {-1, -1}};
        int[][][] due = {cut, cut16, whole};
        for (int k = 0; k < 3; k++) {
            t.sheet(1, bits[k], 2);
            A.due("34: above", t.put(1, 2, 0), Answers.BEYOND);
            A.due("34: below", t.put(1, -1, 0), Answers.BEYOND);
            for (int[] pair : due[k]) {
                A.due("34: put", t.put(1, 1, pair[0]), 1);
                A.due("34: " + pair[0] + " of " + bits[k] + " bits", is(t, 1, 1, bits[k], pair[1]) ? 1 : 0, 1);
            }
        }
    }

    private static void numbers(String what, KnockTable t, int sheet, int... due) {
        for (int i = 0; i < due.length; i++) {
            A.due("35: " + what + ", number " + i, is(t, sheet, i, 8, due[i]) ? 1 : 0, 1);
        }
    }

    private static void promise35Move() {
        KnockTable t = new KnockTable();
        t.sheet(0, 8, 6);
        for (int i = 0; i < 6; i++) {
            t.put(0, i, i + 1);
        }
        t.sheet(1, 8, 3);
        A.due("35: to another", t.move(0, 3, 1, 0, 3), 3);
        numbers("to another", t, 1, 4, 5, 6);
        A.due("35: up within the same", t.move(0, 0, 0, 2, 4), 4);
        numbers("up", t, 0, 1, 2, 1, 2, 3, 4);
        A.due("35: down within the same", t.move(0, 1, 0, 0, 5), 5);
        numbers("down", t, 0, 2, 1, 2, 3, 4, 4);
        A.due("35: none", t.move(0, 6, 1, 3, 0), 0);
        int[][] wrong = {{4, 0, 0, 0, 0}, {-1, 0, 0, 0, 0}, {0, 0, 4, 0, 0}, {0, 0, -1, 0, 0}, {0, 0, 1, 0, 4}, {0, 4, 1, 0, 3},
            {0, 0, 1, 1, 3}, {0, -1, 1, 0, 1}, {0, 0, 1, -1, 1}, {0, 0, 1, 0, -1}, {0, 7, 1, 0, 0}, {0, 0, 1, 4, 0},
            {0, -1, 1, 0, 0}, {0, MAX, 1, 0, 1}, {0, 0, 1, MAX, MAX}, {0, MAX, 1, 0, MAX}, {0, MIN, 1, MIN, MIN}};
        for (int[] w : wrong) {
            A.due("35: wrong", t.move(w[0], w[1], w[2], w[3], w[4]), Answers.BEYOND);
        }
        numbers("unchanged", t, 1, 4, 5, 6);
        t.sheet(3, 0, 0);
        A.due("35: missing", t.move(0, 0, 3, 0, 0), Answers.NONE);
        A.due("35: missing", t.move(3, 0, 0, 0, 0), Answers.NONE);
        A.due("35: missing is ahead of n", t.move(3, 0, 0, 0, -1), Answers.NONE);
        A.due("35: no such is ahead of missing", t.move(3, 0, 4, 0, 0), Answers.BEYOND);
        t.sheet(3, 16, 6);
        A.due("35: unlike bits", t.move(0, 0, 3, 0, 1), Answers.KIND);
        A.due("35: unlike bits are ahead of n", t.move(0, 0, 3, 0, -1), Answers.KIND);
    }

    public static void main(String[] args) {
        promise33Sheet();
        promise34Put();
        promise35Move();
        A.end("SheetsTest");
    }
}
