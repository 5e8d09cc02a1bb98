/** Promises 17 to 23: entries, kinds, lateness, positions, what is held, payments. */
public final class BooksTest {
    private static final Answers A = new Answers();
    private static final int MIN = Integer.MIN_VALUE;
    private static final int MAX = Integer.MAX_VALUE;

    /** Eleven cars, one of each insurer; in crash i car i meets car i + 1; each side claims 500 and no hire. */
    private static KnockTable eleven() {
        KnockTable t = new KnockTable();
        for (int i = 0; i < 11; i++) {
            t.car(i, 99999, 0, 0);
        }
        t.zone(0, 0, 1000);
        for (int i = 0; i < 10; i++) {
            t.crash(100 * i + i + 1, 1000, 257);
        }
        return t;
    }

    private static void promise17Enter() {
        KnockTable t = eleven();
        int[][] wrong = {{10, 0, 0, 0}, {-1, 0, 0, 0}, {0, 2, 0, 0}, {0, -1, 0, 0}, {0, 0, -1, 0}, {0, 0, 1000000, 0},
            {0, 0, 0, -1}, {0, 0, 0, 34000}, {MIN, MAX, MIN, MAX}};
        for (int[] w : wrong) {
            A.due("17: wrong", t.enter(w[0], w[1], w[2], w[3]), Answers.BEYOND);
        }
        A.due("17: none", t.count(4), 0);
        for (int i = 0; i < 40; i++) {
            A.due("17: number", t.enter(9, 1, 999999, 33999), i);
        }
        A.due("17: full", t.enter(0, 0, 0, 0), Answers.FULL);
        A.due("17: beyond is ahead of full", t.enter(0, 0, 0, 34000), Answers.BEYOND);
        A.due("17: forty", t.count(4), 40);
        A.due("17: one counts", t.count(5), 1);
    }

    private static void promise18EntryIs() {
        KnockTable t = eleven();
        t.enter(3, 1, 500, 33999);
        t.enter(3, 0, 501, 12345);
        t.enter(3, 1, 7, 0);
        int[][] due = {{3, 1, 500, 33, 999, 0, 0, 1}, {3, 0, 501, 12, 345, 1, 1, 3}, {3, 1, 7, 0, 0, 0, 0, 4}};
        for (int e = 0; e < 3; e++) {
            for (int what = 0; what < 8; what++) {
                A.due("18: entry " + e + " what " + what, t.entryIs(e, what), due[e][what]);
            }
        }
        t.rate(5, 1);
        A.due("18: within the bound", t.entryIs(1, 6), 0);
        A.due("18: a dent then", t.entryIs(1, 7), 1);
        t.rate(5, 0);
        t.rate(2, 0);
        // TOTAL: LOSS 79999 and 14 days of 30, half of it
        A.due("18: a loss", t.entryIs(0, 7), 2);
        A.due("18: again, though total", t.entryIs(2, 7), 4);
        t.rate(4, 0);
        t.rate(3, 100);
        A.due("18: disputed, though total", t.entryIs(0, 7), 3);
        A.due("18: again, though disputed", t.entryIs(2, 7), 4);
        A.due("18: disputed as any other", t.entryIs(2, 6), 1);
        A.due("18: what", t.entryIs(0, 8), Answers.BEYOND);
        A.due("18: what", t.entryIs(0, -1), Answers.BEYOND);
        A.due("18: entry", t.entryIs(3, 0), Answers.BEYOND);
        A.due("18: entry", t.entryIs(-1, 0), Answers.BEYOND);
        open();
    }

    private static void open() {
        KnockTable t = eleven();
        t.enter(0, 0, 500, 0);
        t.rate(5, 9);
        Answers.treaty(t, "c=500&k=500&b=9", 2, 10);
        A.due("18: by OPEN", t.entryIs(0, 6), 1);
        Answers.treaty(t, "k-c", 2, 11);
        A.due("18: by that of the crash's day", t.entryIs(0, 6), 1);
        Answers.treaty(t, "k-c", 2, 9);
        A.due("18: 0 isn't disputed", t.entryIs(0, 6), 0);
        Answers.treaty(t, "0-b", 2, 9);
        A.due("18: what is not 0 is true", t.entryIs(0, 6), 1);
    }

    private static void promise19As() {
        KnockTable t = eleven();
        t.enter(0, 0, 11, 0);
        t.enter(1, 0, 9999, 0);
        t.enter(0, 0, 13, 0);
        int k = Answers.KIND;
        int[][] due = {{11, 11, k, k, k}, {9999, k, k, 9999, k}, {13, k, k, 13, 13}};
        for (int e = 0; e < 3; e++) {
            for (int kind = 0; kind < 5; kind++) {
                A.due("19: entry " + e + " as " + kind, t.as(e, kind), due[e][kind]);
            }
        }
        t.rate(2, 0);
        int[] loss = {11, 11, 11, k, k};
        for (int kind = 0; kind < 5; kind++) {
            A.due("19: a loss as " + kind, t.as(0, kind), loss[kind]);
        }
        A.due("19: kind", t.as(0, 5), Answers.BEYOND);
        A.due("19: kind", t.as(0, -1), Answers.BEYOND);
        A.due("19: entry", t.as(3, 0), Answers.BEYOND);
        A.due("19: entry", t.as(-1, 0), Answers.BEYOND);
    }

    private static void promise20Late() {
        KnockTable t = eleven();
        t.enter(0, 0, 999999, 100);
        t.enter(0, 1, 1999, 0);
        A.due("20: on time", t.late(0, 130), 0);
        A.due("20: one day", t.late(0, 131), 999);
        A.due("20: two days, cut once", t.late(0, 132), 1999);
        A.due("20: ahead of its day", t.late(0, 0), 0);
        A.due("20: one day of 1999", t.late(1, 31), 1);
        A.due("20: two of 1999", t.late(1, 32), 3);
        t.rate(6, 50);
        A.due("20: the most", t.late(0, 999), 43449956);
        t.rate(6, 0);
        A.due("20: without interest", t.late(0, 999), 0);
        int[][] wrong = {{2, 0}, {-1, 0}, {0, -1}, {0, 1000}, {MIN, MAX}};
        for (int[] w : wrong) {
            A.due("20: wrong", t.late(w[0], w[1]), Answers.BEYOND);
        }
    }

    private static void promise21Position() {
        KnockTable t = eleven();
        t.enter(0, 0, 100, 5000);
        t.enter(0, 1, 30, 5000);
        t.enter(1, 1, 7, 5000);
        t.enter(0, 0, 100, 5000);
        t.enter(2, 0, 501, 5000);
        t.enter(2, 1, 400, 6000);
        t.enter(1, 1, 9, 6000);
        A.due("21: gets 100, owes 30", t.position(0, 5), 70);
        A.due("21: owes 100 and 7, gets 30", t.position(1, 5), -77);
        A.due("21: gets 7", t.position(2, 5), 7);
        A.due("21: nothing of what is disputed", t.position(3, 5), 0);
        A.due("21: a month of its own", t.position(3, 6), 400);
        A.due("21: twice counts in no other month", t.position(1, 6), 0);
        A.due("21: nothing", t.position(10, 33), 0);
        int[][] wrong = {{11, 0}, {-1, 0}, {0, -1}, {0, 34}, {MIN, MAX}};
        for (int[] w : wrong) {
            A.due("21: wrong", t.position(w[0], w[1]), Answers.BEYOND);
        }
        asLowAsAnError();
    }

    private static void asLowAsAnError() {
        KnockTable t = eleven();
        Answers.treaty(t, "0", 2, 0);
        t.enter(0, 0, 999999, 0);
        t.enter(1, 1, 2, 0);
        A.due("21: as low as an error", t.position(1, 0), Answers.BEYOND);
        A.due("21: which isn't one", t.told(1), 0);
    }

    private static void promise22Held() {
        KnockTable t = eleven();
        t.enter(0, 0, 501, 5000);
        t.enter(0, 1, 500, 5000);
        t.enter(0, 0, 900, 5000);
        t.enter(1, 0, 1000, 5000);
        t.enter(2, 0, 1000, 6000);
        A.due("22: held", t.held(5), 1501);
        A.due("22: another month", t.held(6), 1000);
        A.due("22: none", t.held(0), 0);
        A.due("22: month", t.held(34), Answers.BEYOND);
        A.due("22: month", t.held(-1), Answers.BEYOND);
        A.due("22: month", t.held(MIN), Answers.BEYOND);
    }

    /** Positions of insurers 0 .. in a month, by claims along the row of crashes. */
    private static int payments(int... positions) {
        KnockTable t = eleven();
        Answers.treaty(t, "0", 2, 0);
        int owed = 0;
        for (int i = 0; i + 1 < positions.length; i++) {
            owed += positions[i];
            t.enter(i, owed > 0 ? 0 : 1, Math.abs(owed), 7000);
        }
        for (int i = 0; i < positions.length; i++) {
            A.due("23: position " + i, t.position(i, 7), positions[i]);
        }
        A.due("23: another month", t.payments(8), 0);
        return t.payments(7);
    }

    private static void promise23Payments() {
        A.due("23: nothing", payments(0, 0, 0), 0);
        A.due("23: a pair", payments(5, -5), 1);
        A.due("23: one to two", payments(5, -3, -2), 2);
        A.due("23: two pairs", payments(5, 3, -3, -5), 2);
        A.due("23: no pairs", payments(5, 3, -4, -4), 3);
        A.due("23: two groups of three", payments(5, -3, -2, 7, -6, -1), 4);
        A.due("23: greedy pairs go wrong", payments(6, 4, 3, -5, -8), 4);
        A.due("23: three of three", payments(3, -1, -2, 9, -4, -5, 20, -7, -13), 6);
        A.due("23: eleven in five groups", payments(1, -1, 2, -2, 3, -3, 4, -4, 10, -4, -6), 6);
        A.due("23: eleven in one group", payments(1, 2, 4, 8, 16, 32, 64, 128, 256, 512, -1023), 10);
        A.due("23: the first stands by another", payments(1, 5, -2, -5, 1), 3);
        A.due("23: 2 + 3 = 5, not 2 - 2", payments(2, 3, -5, -2, 2), 3);
        KnockTable t = new KnockTable();
        A.due("23: month", t.payments(34), Answers.BEYOND);
        A.due("23: month", t.payments(-1), Answers.BEYOND);
        A.due("23: month", t.payments(MAX), Answers.BEYOND);
    }

    public static void main(String[] args) {
        promise17Enter();
        promise18EntryIs();
        promise19As();
        promise20Late();
        promise21Position();
        promise22Held();
        promise23Payments();
        A.end("BooksTest");
    }
}
