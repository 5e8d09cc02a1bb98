/** Promises 24 to 30: draws, panels, like cases, rings, the core, chains. */
public final class RingsTest {
    private static final Answers A = new Answers();
    private static final int MIN = Integer.MIN_VALUE;
    private static final int MAX = Integer.MAX_VALUE;

    private static void promise24Draws() {
        KnockTable t = new KnockTable();
        A.due("24: 1 at first", t.draws(MIN), 1);
        A.due("24: any int", t.draws(Answers.BEYOND), MIN);
        A.due("24: as low as an error", t.draws(0), Answers.BEYOND);
        A.due("24: which isn't one", t.told(1), 0);
    }

    private static int draw(long[] w, int n) {
        w[0] = (int) (w[0] * 1103515245L + 12345L);
        return (int) ((w[0] & 0xFFFFFFFFL) >> 16) % n;
    }

    private static void promise25Panel() {
        KnockTable t = new KnockTable();
        t.car(10, 1, 0, 0);
        t.car(4, 1, 0, 0);
        t.crash(1, 0, 0);
        for (int seed : new int[] {1, 0, -1, MIN, MAX, 12345, -987654321}) {
            t.draws(seed);
            long[] w = {seed};
            for (int again = 0; again < 3; again++) {
                java.util.List<Integer> may = new java.util.ArrayList<>(java.util.List.of(0, 1, 2, 3, 5, 6, 7, 8, 9));
                int due = 0;
                for (int n = 9; n >= 7; n--) {
                    due |= 1 << may.remove(draw(w, n));
                }
                A.due("25: panel of " + seed, t.panel(0), due);
            }
            A.due("25: nine draws", t.draws(0), w[0]);
        }
        A.due("25: crash", t.panel(1), Answers.BEYOND);
        A.due("25: crash", t.panel(-1), Answers.BEYOND);
        A.due("25: nothing drawn", t.draws(1), 0);
    }

    private static void promise26Like() {
        KnockTable t = new KnockTable();
        t.car(0, 1, 0, 4);
        t.car(1, 1, 0, 0);
        t.crash(1, 50, 0b011 * 256 + 0b001);     // 0: two zones and 5 unlike the last: 25
        t.crash(1, 45, 0b101 * 256 + 0b001);     // 1: old dents don't differ: one zone: 10
        t.crash(1, 55, 0b001 * 256 + 0b011);     // 2: alike but for the speed: 10
        t.crash(1, 25, 0b001 * 256 + 0b011);     // 3: 20
        t.crash(1, 45, 0b001 * 256 + 0b011);     // 4
        int[][] due = {{1, 10}, {2, 10}, {3, 20}, {0, 25}};
        for (int i = 0; i < 4; i++) {
            A.due("26: which", t.like(4, i, 0), due[i][0]);
            A.due("26: how unlike", t.like(4, i, 1), due[i][1]);
        }
        A.due("26: only those ahead", t.like(1, 0, 0), 0);
        A.due("26: none more", t.like(1, 1, 0), Answers.NONE);
        A.due("26: none ahead", t.like(0, 0, 1), Answers.NONE);
        A.due("26: none so far", t.like(4, MAX, 1), Answers.NONE);
        A.due("26: crash", t.like(5, 0, 0), Answers.BEYOND);
        A.due("26: crash", t.like(-1, 0, 0), Answers.BEYOND);
        A.due("26: i", t.like(4, -1, 0), Answers.BEYOND);
        A.due("26: what", t.like(4, 0, 2), Answers.BEYOND);
        A.due("26: what", t.like(4, 0, -1), Answers.BEYOND);
        A.due("26: what ahead of none", t.like(0, 0, 2), Answers.BEYOND);
    }

    /** Sixteen cars of two insurers by turns, two in each of eight crashes. */
    private static KnockTable eight() {
        KnockTable t = new KnockTable();
        for (int i = 0; i < 16; i++) {
            t.car(i % 2, 1, 0, 0);
        }
        for (int i = 0; i < 8; i++) {
            t.crash(200 * i + 2 * i + 1, 0, 0);
        }
        return t;
    }

    private static void marks(KnockTable t, int car, int a, int b, int c) {
        t.mark(car, 0, a);
        t.mark(car, 1, b);
        t.mark(car, 2, c);
    }

    private static void promise27Ring() {
        KnockTable t = eight();
        for (int i = 0; i < 8; i++) {
            A.due("27: alone", t.ring(i), 1 << i);
        }
        marks(t, 0, 5, 6, -1);
        marks(t, 3, 5, 6, 7);
        A.due("27: two marks, unlike sides", t.ring(0), 3);
        marks(t, 5, 9, 8, 7);
        A.due("27: one mark is not enough", t.ring(2), 4);
        marks(t, 5, 6, 5, 7);
        A.due("27: marks stand each as its own", t.ring(2), 4);
        marks(t, 5, 9, 6, 7);
        A.due("27: the last two", t.ring(2), 7);
        A.due("27: through another", t.ring(0), 7);
        marks(t, 3, -1, 6, -1);
        marks(t, 0, -1, 6, -1);
        A.due("27: none is alike to none", t.ring(0), 1);
        marks(t, 3, 0, -1, 0);
        marks(t, 0, 0, 1, 0);
        A.due("27: 0 is a mark", t.ring(0), 3);
        t.crash(1 + 200 * 7, 0, 0);
        A.due("27: a car in both", t.ring(8), 1 | 2 | 1 << 7 | 1 << 8);
        A.due("27: crash", t.ring(9), Answers.BEYOND);
        A.due("27: crash", t.ring(-1), Answers.BEYOND);
        longRing();
    }

    /** Twenty crashes in a row of twenty-one cars, told so that ties lead up and down. */
    private static void longRing() {
        KnockTable t = new KnockTable();
        for (int i = 0; i < 21; i++) {
            t.car(i % 2, 1, 0, 0);
        }
        for (int i = 0; i < 20; i++) {
            int at = i % 2 == 0 ? i / 2 : 19 - i / 2;
            t.crash(100 * at + at + 1, 0, 0);
        }
        A.due("27: all twenty", t.ring(19), (1 << 20) - 1);
        A.due("28: one ring", t.rings(20), 1);
        A.due("29: two at most", t.core(), 0b101);
    }

    private static void promise28Rings() {
        KnockTable t = eight();
        marks(t, 0, 1, 1, 1);
        marks(t, 2, 1, 1, 1);
        marks(t, 4, 1, 1, 2);
        marks(t, 9, 3, 3, 3);
        marks(t, 14, 3, 3, 3);
        marks(t, 1, 3, 3, 3);
        A.due("28: two rings joined", t.rings(5), 1);
        marks(t, 1, 3, 3, 4);
        marks(t, 0, 9, 9, 9);
        marks(t, 1, 9, 9, 9);
        A.due("28: the first alone", t.rings(1), 6);
        marks(t, 0, 1, 1, 1);
        int[] due = {5, 2, 1, 0};
        for (int k = 1; k <= 4; k++) {
            A.due("28: rings of " + k, t.rings(k), due[k - 1]);
        }
        A.due("28: rings of 20", t.rings(20), 0);
        A.due("28: k", t.rings(0), Answers.BEYOND);
        A.due("28: k", t.rings(21), Answers.BEYOND);
        A.due("28: k", t.rings(MIN), Answers.BEYOND);
    }

    private static void promise29Core() {
        KnockTable t = eight();
        A.due("29: the least alone", t.core(), 1);
        marks(t, 12, 3, 3, 3);
        marks(t, 14, 3, 3, 3);
        A.due("29: two", t.core(), 0b11000000);
        marks(t, 2, 4, 4, 4);
        marks(t, 8, 4, 4, 4);
        A.due("29: two of lesser bits", t.core(), 0b00010010);
        marks(t, 15, 5, 5, 5);
        marks(t, 13, 5, 5, 5);
        marks(t, 11, 5, 5, 5);
        A.due("29: three", t.core(), 0b11100000);
        marks(t, 3, 6, 6, 6);
        marks(t, 5, 6, 6, 6);
        marks(t, 9, 6, 6, 6);
        A.due("29: three of lesser bits", t.core(), 0b00010110);
        marks(t, 1, 6, 6, 6);
        A.due("29: four with the first", t.core(), 0b00010111);
        KnockTable all = new KnockTable();
        all.car(0, 1, 0, 0);
        all.car(1, 1, 0, 0);
        for (int i = 0; i < 20; i++) {
            all.crash(1, 0, 0);
        }
        A.due("29: all", all.core(), (1 << 20) - 1);
    }

    private static void row(KnockTable t, int sheet, int bits, int... v) {
        t.sheet(sheet, bits, v.length);
        for (int i = 0; i < v.length; i++) {
            t.put(sheet, i, v[i]);
        }
    }

    private static void promise30Chain() {
        KnockTable t = new KnockTable();
        A.due("30: missing", t.chain(0, 0, 0), Answers.NONE);
        int[][] wrong = {{-1, 0, 0}, {4, 0, 0}, {0, -1, 0}, {0, 1000, 0}, {0, 0, -1}, {MIN, MAX, MIN}};
        for (int[] w : wrong) {
            A.due("30: wrong", t.chain(w[0], w[1], w[2]), Answers.BEYOND);
        }
        for (int n = 0; n <= 24; n++) {
            t.sheet(1, 8, n);
            boolean fits = n % 2 == 0 && n >= 2 && n <= 12;
            int[] orders = {0, 1, 2, 6, 24, 120, 720};
            A.due("30: " + n + " numbers", t.chain(1, 0, 0), fits ? orders[n / 2] : Answers.KIND);
            A.due("30: place 1 of " + n, t.chain(1, 0, 2), !fits ? Answers.KIND : n >= 4 ? 1 : Answers.NONE);
        }
        row(t, 0, 8, 10, 99);
        A.due("30: one car", t.chain(0, 0, 0), 1);
        A.due("30: one car", t.chain(0, 0, 1), 0);
        A.due("30: no second", t.chain(0, 0, 2), Answers.NONE);
        A.due("30: no last", t.chain(0, 0, MAX), Answers.NONE);
        row(t, 0, 16, 300, 0, 500, 303);
        A.due("30: one order", t.chain(0, 3, 0), 1);
        A.due("30: first", t.chain(0, 3, 1), 0);
        A.due("30: second", t.chain(0, 3, 2), 1);
        A.due("30: a little too far", t.chain(0, 2, 0), 0);
        A.due("30: no order", t.chain(0, 2, 1), Answers.NONE);
        A.due("30: both orders", t.chain(0, 500, 0), 2);
        A.due("30: the first by numbers", t.chain(0, 500, 1), 0);
        row(t, 0, 32, MIN, MAX, MAX, MIN);
        A.due("30: far off is far off", t.chain(0, 999, 0), 2);
        row(t, 0, 32, MIN, MIN, MAX, MAX);
        A.due("30: no wrap", t.chain(0, 999, 0), 0);
        row(t, 0, 8, 1, 9, 2, 1, 9, 2);
        // 0 drives into 1, 1 into 2, 2 into 0
        A.due("30: a round", t.chain(0, 0, 0), 3);
        for (int k = 0; k < 3; k++) {
            A.due("30: first of the round", t.chain(0, 0, 1 + k), k);
        }
        row(t, 0, 8, 7, 0, 1, 1, 0, 7);
        // 0 into 2, 1 into 1 alone, 2 into 0
        A.due("30: one that none drives into", t.chain(0, 0, 0), 0);
        row(t, 0, 8, 7, 1, 0, 9, 1, 7);
        // 0 into 2, 2 into 0, none into 1
        A.due("30: one with no way in and none out", t.chain(0, 0, 0), 0);
        row(t, 0, 8, 3, 9, 5, 8, 8, 3);
        // 0 into 2, 2 into 1
        A.due("30: 0 skips 1", t.chain(0, 0, 2), 2);
        A.due("30: then 1", t.chain(0, 0, 3), 1);
        row(t, 0, 8, 5, 1, 3, 5, 1, 3);
        A.due("30: another round", t.chain(0, 0, 0), 3);
        row(t, 0, 8, 50, 40, 40, 60, 30, 50);
        // 0 into 2, 1 into 0, 2 into none
        A.due("30: behind a dead end", t.chain(0, 0, 0), 1);
        int[] due = {1, 0, 2};
        for (int k = 0; k < 3; k++) {
            A.due("30: behind a dead end", t.chain(0, 0, 1 + k), due[k]);
        }
    }

    public static void main(String[] args) {
        promise24Draws();
        promise25Panel();
        promise26Like();
        promise27Ring();
        promise28Rings();
        promise29Core();
        promise30Chain();
        A.end("RingsTest");
    }
}
