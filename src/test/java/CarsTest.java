/** Promises 1 to 8: a new object, cars, shapes, crashes. */
public final class CarsTest {
    private static final Answers A = new Answers();
    private static final int MIN = Integer.MIN_VALUE;
    private static final int MAX = Integer.MAX_VALUE;

    private static void promise1NewObject() {
        KnockTable t = new KnockTable();
        for (int what = 0; what <= 8; what++) {
            A.due("1: count " + what, t.count(what), 0);
        }
        A.due("1: no CAR", t.carIs(0, 0), Answers.BEYOND);
        A.due("1: no CRASH", t.crashIs(0, 0), Answers.BEYOND);
        A.due("1: no TREATY", t.force(0, 999), Answers.NONE);
        A.due("1: no SHEET", t.put(0, 0, 0), Answers.NONE);
        A.due("1: no IMAGE", t.restore(), Answers.NONE);
        A.due("1: no TRACE", t.trace(0), Answers.NONE);
        A.due("1: core", t.core(), 0);
        A.due("1: rings", t.rings(1), 0);
        A.due("1: positions", t.payments(0), 0);
        A.due("1: check", t.check(0), 0);
        A.due("1: draws", t.draws(0), 1);
        int[] rates = {10, 15, 70, 20, 30, 0, 1};
        for (int what = 0; what < 7; what++) {
            A.due("1: rate " + what, t.rate(what, 0), rates[what]);
        }
    }

    private static void promise2Car() {
        KnockTable t = new KnockTable();
        int[][] wrong = {{-1, 1, 0, 0}, {11, 1, 0, 0}, {0, 0, 0, 0}, {0, 100000, 0, 0}, {0, 1, -1, 0},
            {0, 1, 21000, 0}, {0, 1, 0, -1}, {0, 1, 0, 256}, {MIN, 1, 0, 0}, {0, MAX, 0, 0}, {0, 1, MAX, 0}, {0, 1, 0, MIN}};
        for (int[] w : wrong) {
            A.due("2: wrong", t.car(w[0], w[1], w[2], w[3]), Answers.BEYOND);
        }
        A.due("2: nothing changed", t.count(0), 0);
        A.due("2: least", t.car(0, 1, 0, 0), 0);
        A.due("2: most", t.car(10, 99999, 20999, 255), 1);
        for (int i = 2; i < 30; i++) {
            A.due("2: number", t.car(i % 11, 100, 0, 0), i);
        }
        A.due("2: full", t.car(0, 1, 0, 0), Answers.FULL);
        A.due("2: beyond is ahead of full", t.car(11, 1, 0, 0), Answers.BEYOND);
        A.due("2: thirty", t.count(0), 30);
    }

    private static void promise3CarIs() {
        KnockTable t = new KnockTable();
        t.car(10, 99999, 20999, 255);
        int[] due = {10, 99999, 20, 999, 255, -2, -1, -1, -1};
        for (int what = 0; what < 9; what++) {
            if (what != 5) {
                A.due("3: " + what, t.carIs(0, what), due[what]);
            }
        }
        t.car(3, 1000, 2500, 0);
        A.due("3: book 850, 722.5", t.carIs(1, 5), 722);
        t.rate(1, 0);
        A.due("3: book without fall", t.carIs(0, 5), 99999);
        t.rate(1, 50);
        A.due("3: book by halves", t.carIs(0, 5), 0);
        A.due("3: book by halves", t.carIs(1, 5), 250);
        t.car(3, 1000, 20000, 0);
        A.due("3: just 20 years", t.carIs(2, 2), 20);
        A.due("3: no excess", t.carIs(2, 3), 0);
        A.due("3: no such car", t.carIs(3, 0), Answers.BEYOND);
        A.due("3: no such car", t.carIs(-1, 0), Answers.BEYOND);
        A.due("3: no such what", t.carIs(0, 9), Answers.BEYOND);
        A.due("3: no such what", t.carIs(0, -1), Answers.BEYOND);
        A.due("3: wild", t.carIs(MIN, MAX), Answers.BEYOND);
    }

    private static void promise4Mark() {
        KnockTable t = new KnockTable();
        t.car(0, 1, 0, 0);
        A.due("4: first", t.mark(0, 2, 99), -1);
        A.due("4: again", t.mark(0, 2, 0), 99);
        A.due("4: taken off", t.mark(0, 2, -1), 0);
        A.due("4: others stay", t.carIs(0, 6), -1);
        A.due("4: v", t.mark(0, 0, 100), Answers.BEYOND);
        A.due("4: v", t.mark(0, 0, -2), Answers.BEYOND);
        A.due("4: which", t.mark(0, 3, 1), Answers.BEYOND);
        A.due("4: which", t.mark(0, -1, 1), Answers.BEYOND);
        A.due("4: car", t.mark(1, 0, 1), Answers.BEYOND);
        A.due("4: car", t.mark(-1, 0, 1), Answers.BEYOND);
        A.due("4: unchanged", t.carIs(0, 6), -1);
    }

    private static void promise5Shape() {
        KnockTable t = new KnockTable();
        int[][] wrong = {{-1, 0, 0}, {65536, 0, 0}, {0, -1, 0}, {0, 65536, 0}, {0, 0, -1}, {0, 0, 101}, {MIN, MAX, MIN}};
        for (int[] w : wrong) {
            A.due("5: wrong", t.shape(w[0], w[1], w[2]), Answers.BEYOND);
        }
        for (int i = 0; i < 16; i++) {
            A.due("5: number", t.shape(65535, 65535, 100), i);
        }
        A.due("5: full", t.shape(0, 0, 0), Answers.FULL);
        A.due("5: beyond first", t.shape(0, 0, 101), Answers.BEYOND);
        A.due("5: sixteen", t.count(1), 16);
    }

    private static void promise6Crash() {
        KnockTable t = new KnockTable();
        t.car(0, 100, 0, 0);
        t.car(1, 100, 0, 0);
        t.car(0, 100, 0, 0);
        int[][] wrong = {{-1, 0, 0}, {3, 0, 0}, {300, 0, 0}, {99, 0, 0}, {1, -1, 0}, {1, 100000, 0}, {1, 0, -1}, {1, 0, 65536},
            {MIN, 0, 0}, {MAX, 0, 0}, {-100, 0, 0}};
        for (int[] w : wrong) {
            A.due("6: wrong " + w[0], t.crash(w[0], w[1], w[2]), Answers.BEYOND);
        }
        A.due("6: one insurer", t.crash(2, 0, 0), Answers.KIND);
        A.due("6: one car", t.crash(101, 0, 0), Answers.KIND);
        A.due("6: beyond is ahead of kind", t.crash(2, 0, 65536), Answers.BEYOND);
        for (int i = 0; i < 20; i++) {
            A.due("6: number", t.crash(102, 99999, 65535), i);
        }
        A.due("6: full", t.crash(102, 0, 0), Answers.FULL);
        A.due("6: kind is ahead of full", t.crash(2, 0, 0), Answers.KIND);
        A.due("6: twenty", t.count(2), 20);
    }

    private static void promise7Tells() {
        KnockTable t = new KnockTable();
        t.car(0, 100, 0, 0);
        t.car(1, 100, 0, 0);
        t.crash(1, 0, 0);
        A.due("7: no shapes", t.tells(0, 0, 1), Answers.BEYOND);
        A.due("7: nothing said", t.tells(0, 0, 0), 0);
        t.shape(0, 0, 10);
        A.due("7: the only shape", t.tells(0, 0, 1), 0);
        A.due("7: beyond", t.tells(0, 0, 2), Answers.BEYOND);
        A.due("7: unchanged", t.tells(0, 0, 1), 1);
        A.due("7: the other side", t.tells(0, 1, 1), 0);
        A.due("7: below", t.tells(0, 1, -1), Answers.BEYOND);
        A.due("7: below", t.tells(0, 1, MIN), Answers.BEYOND);
        A.due("7: side", t.tells(0, 2, 0), Answers.BEYOND);
        A.due("7: side", t.tells(0, -1, 0), Answers.BEYOND);
        A.due("7: crash", t.tells(1, 0, 0), Answers.BEYOND);
        A.due("7: crash", t.tells(-1, 0, 0), Answers.BEYOND);
        for (int i = 1; i < 16; i++) {
            t.shape(0, 0, i);
        }
        A.due("7: all sixteen", t.tells(0, 0, 65535), 1);
        A.due("7: a seventeenth", t.tells(0, 0, 65536), Answers.BEYOND);
    }

    private static void promise8CrashIs() {
        KnockTable t = new KnockTable();
        t.car(0, 100, 0, 0b0100);
        t.car(1, 100, 0, 0b0001);
        t.crash(1, 99999, 0b0111 * 256 + 0b0011);
        int[] due = {0, 1, 999, 99, 0b0011, 0b0010, 0, 0, 0, 100, 50};
        for (int what = 0; what <= 10; what++) {
            A.due("8: without shapes " + what, t.crashIs(0, what), due[what]);
        }
        t.shape(0b0001 * 256 + 0b0010, 0b0010 * 256, 20);     // 0 fits
        t.shape(0b0011 * 256 + 0b0010, 0, 40);                // 1 fits, all needed
        t.shape(0, 65535, 90);                                // 2 fits, all allowed
        t.shape(0b0001 * 256 + 0b0010, 0, 60);                // 3: a dent too many
        t.shape(0b0111 * 256 + 0b0010, 0, 60);                // 4: a dent is old
        t.shape(0b0011 * 256 + 0b0110, 65535, 60);            // 5: a dent lacks on the second side
        t.shape(0b0011 * 256, 0b0010 * 256, 60);              // 6: one too many on the second side
        int[] fitting = {0, 1, 999, 99, 0b0011, 0b0010, 7, 7, 20, 90, 55};
        for (int what = 0; what <= 10; what++) {
            A.due("8: with shapes " + what, t.crashIs(0, what), fitting[what]);
        }
        t.tells(0, 0, 0b001);
        A.due("8: the first tells one", t.crashIs(0, 7), 0b001);
        t.tells(0, 0, 0);
        t.tells(0, 1, 0b001);
        A.due("8: the second tells one", t.crashIs(0, 7), 0b001);
        t.tells(0, 1, 0);
        t.tells(0, 0, 0b011);
        A.due("8: one tells, the other says nothing", t.crashIs(0, 7), 0b011);
        A.due("8: agreed", t.crashIs(0, 10), 30);
        t.tells(0, 1, 0b110);
        A.due("8: both", t.crashIs(0, 7), 0b010);
        A.due("8: least", t.crashIs(0, 8), 40);
        A.due("8: most", t.crashIs(0, 9), 40);
        t.tells(0, 1, 0b100);
        A.due("8: none in both, so in one", t.crashIs(0, 7), 0b111);
        t.tells(0, 1, 0b1000);
        A.due("8: in one that fits", t.crashIs(0, 7), 0b011);
        t.tells(0, 0, 0b10000);
        A.due("8: in neither", t.crashIs(0, 7), 0b111);
        t.tells(0, 0, 0);
        A.due("8: one says nothing, the other what doesn't fit", t.crashIs(0, 7), 0b111);
        A.due("8: what", t.crashIs(0, 11), Answers.BEYOND);
        A.due("8: what", t.crashIs(0, -1), Answers.BEYOND);
        A.due("8: crash", t.crashIs(1, 0), Answers.BEYOND);
        A.due("8: crash", t.crashIs(-1, 0), Answers.BEYOND);
        agreedFault();
        oldDents();
    }

    private static void oldDents() {
        KnockTable t = new KnockTable();
        t.car(0, 100, 0, 0b11110000);
        t.car(1, 100, 0, 0b10101010);
        t.crash(1, 0, 65535);
        t.crash(100, 0, 65535);
        A.due("8: fresh, first side", t.crashIs(0, 4), 0b00001111);
        A.due("8: fresh, second side", t.crashIs(0, 5), 0b01010101);
        A.due("8: fresh, sides changed", t.crashIs(1, 4), 0b01010101);
        A.due("8: fresh, sides changed", t.crashIs(1, 5), 0b00001111);
    }

    private static void agreedFault() {
        KnockTable t = new KnockTable();
        t.car(0, 100, 0, 0);
        t.car(1, 100, 0, 0);
        t.shape(0, 65535, 25);
        t.shape(0, 65535, 30);
        t.crash(1, 1077, 257);
        A.due("8: half, cut", t.crashIs(0, 10), 27);
        Answers.treaty(t, "l*1000+m*100+n*10+v", 0, 10);
        A.due("8: held at 100", t.crashIs(0, 10), 100);
        Answers.treaty(t, "0-v", 0, 10);
        A.due("8: held at 0", t.crashIs(0, 10), 0);
        Answers.treaty(t, "n", 0, 11);
        A.due("8: not yet in force", t.crashIs(0, 10), 0);
        Answers.treaty(t, "v-n", 0, 0);
        A.due("8: told last", t.crashIs(0, 10), 75);
        t.crash(1, 1177, 257);
        A.due("8: told last on the next day, too", t.crashIs(1, 10), 75);
    }

    public static void main(String[] args) {
        promise1NewObject();
        promise2Car();
        promise3CarIs();
        promise4Mark();
        promise5Shape();
        promise6Crash();
        promise7Tells();
        promise8CrashIs();
        A.end("CarsTest");
    }
}
