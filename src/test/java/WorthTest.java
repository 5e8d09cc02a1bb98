/** Promises 9 to 12: zones, rates, worth, what goes back. */
public final class WorthTest {
    private static final Answers A = new Answers();
    private static final int MIN = Integer.MIN_VALUE;
    private static final int MAX = Integer.MAX_VALUE;

    private static void promise9Zone() {
        KnockTable t = new KnockTable();
        int[] tops = {9999, 99, 60};
        for (int what = 0; what < 3; what++) {
            A.due("9: 0 at first", t.zone(7, what, tops[what]), 0);
            A.due("9: beyond the top", t.zone(7, what, tops[what] + 1), Answers.BEYOND);
            A.due("9: below", t.zone(7, what, -1), Answers.BEYOND);
            A.due("9: what it was", t.zone(7, what, 1), tops[what]);
            A.due("9: other zones stay", t.zone(6, what, 0), 0);
        }
        A.due("9: zone", t.zone(8, 0, 0), Answers.BEYOND);
        A.due("9: zone", t.zone(-1, 0, 0), Answers.BEYOND);
        A.due("9: what", t.zone(0, 3, 0), Answers.BEYOND);
        A.due("9: what", t.zone(0, -1, 0), Answers.BEYOND);
        A.due("9: wild", t.zone(MIN, MAX, MIN), Answers.BEYOND);
    }

    private static void promise10Rate() {
        KnockTable t = new KnockTable();
        int[] tops = {99, 50, 100, 100, 99, 9999, 50};
        int[] first = {10, 15, 70, 20, 30, 0, 1};
        for (int what = 0; what < 7; what++) {
            A.due("10: at first", t.rate(what, tops[what]), first[what]);
            A.due("10: beyond the top", t.rate(what, tops[what] + 1), Answers.BEYOND);
            A.due("10: below", t.rate(what, -1), Answers.BEYOND);
            A.due("10: what it was", t.rate(what, 0), tops[what]);
        }
        A.due("10: what", t.rate(7, 0), Answers.BEYOND);
        A.due("10: what", t.rate(-1, 0), Answers.BEYOND);
        A.due("10: wild", t.rate(MAX, MIN), Answers.BEYOND);
    }

    private static KnockTable two() {
        KnockTable t = new KnockTable();
        t.car(0, 10000, 1300, 0);
        t.car(1, 2000, 2050, 2);
        t.shape(0, 65535, 40);
        t.zone(0, 0, 500);
        t.zone(0, 1, 9);
        t.zone(0, 2, 4);
        t.zone(1, 0, 300);
        t.zone(1, 1, 8);
        t.zone(1, 2, 60);
        t.zone(7, 0, 10);
        t.crash(1, 1000, 0b11 * 256 + 0b11);
        return t;
    }

    private static void row(KnockTable t, String what, int side, int... due) {
        for (int i = 0; i < due.length; i++) {
            A.due("11: " + what + ", side " + side + " what " + i, t.worth(0, side, i), due[i]);
        }
    }

    private static void promise11Worth() {
        KnockTable t = two();
        // 800 and 17 hours of 10; 60 days and 17 hours by 8, up; (970 + 63 * 30) * 60 / 100
        row(t, "a repair", 0, 970, 0, 970, 63, 60, 1716);
        // zone 1 is old: 500 and 9 hours; 4 and 2 days; (590 + 180) * 40 / 100
        row(t, "a repair", 1, 590, 0, 590, 6, 4, 308);
        t.zone(0, 0, 921);
        // BOOK 2000, 1700, 1445; 70 hundredths: 1011.5
        row(t, "still no total", 1, 1011, 0, 1011, 6, 4, 476);
        t.zone(0, 0, 922);
        // LOSS 1445 - 289; (1156 + 14 * 30) * 40 / 100 is 630.4
        row(t, "a total", 1, 1012, 1, 1156, 14, 0, 630);
        t.rate(3, 33);
        A.due("11: salvage 476.85 is cut", t.worth(0, 1, 2), 1445 - 476);
        t.rate(2, 100);
        t.zone(0, 0, 1355);
        A.due("11: repair as book", t.worth(0, 1, 1), 0);
        t.zone(0, 0, 1356);
        A.due("11: repair above book", t.worth(0, 1, 1), 1);
        t.rate(2, 0);
        t.zone(0, 0, 0);
        t.rate(0, 0);
        A.due("11: nothing is not above nothing", t.worth(0, 1, 1), 0);
        t.rate(0, 1);
        A.due("11: something is", t.worth(0, 1, 1), 1);
        int[][] wrong = {{1, 0, 0}, {-1, 0, 0}, {0, 2, 0}, {0, -1, 0}, {0, 0, 6}, {0, 0, -1}, {MIN, MAX, MIN}};
        for (int[] w : wrong) {
            A.due("11: wrong", t.worth(w[0], w[1], w[2]), Answers.BEYOND);
        }
        hoursUp();
        noDents();
    }

    private static void hoursUp() {
        KnockTable t = two();
        int[] hours = {0, 1, 8, 9, 16, 99};
        int[] days = {0, 1, 1, 2, 2, 13};
        t.zone(1, 1, 0);
        t.zone(1, 2, 0);
        t.zone(0, 2, 0);
        for (int i = 0; i < hours.length; i++) {
            t.zone(0, 1, hours[i]);
            A.due("11: days of " + hours[i] + " hours", t.worth(0, 0, 3), days[i]);
        }
        t.zone(0, 1, 4);
        t.zone(1, 1, 4);
        A.due("11: hours together", t.worth(0, 0, 3), 1);
    }

    private static void noDents() {
        KnockTable t = new KnockTable();
        t.car(0, 1, 20000, 255);
        t.car(1, 1, 0, 255);
        t.crash(1, 0, 65535);
        row(t, "only old dents", 0, 0, 0, 0, 0, 0, 0);
    }

    private static void promise12Back() {
        KnockTable t = two();
        A.due("12: all of it", t.back(0, 0, 299), 299);
        A.due("12: the excess", t.back(0, 0, 301), 300);
        A.due("12: the other side's", t.back(0, 1, 999999), 50);
        A.due("12: none", t.back(0, 0, 0), 0);
        Answers.treaty(t, "r*e/c", 1, 11);
        A.due("12: not in force", t.back(0, 0, 1000), 300);
        Answers.treaty(t, "r*e/c", 1, 10);
        A.due("12: 1000 * 300 / 970", t.back(0, 0, 1000), 309);
        A.due("12: 1000 * 50 / 590", t.back(0, 1, 1000), 84);
        Answers.treaty(t, "r+1", 1, 0);
        A.due("12: held within r", t.back(0, 0, 7), 7);
        Answers.treaty(t, "-r", 1, 0);
        A.due("12: held at 0", t.back(0, 0, 7), 0);
        KnockTable first = two();
        Answers.treaty(first, "2", 1, 0);
        A.due("12: by treaty 0", first.back(0, 0, 7), 2);
        int[][] wrong = {{1, 0, 0}, {-1, 0, 0}, {0, 2, 0}, {0, -1, 0}, {0, 0, 1000000}, {0, 0, -1}, {MAX, MIN, MAX}};
        for (int[] w : wrong) {
            A.due("12: wrong", t.back(w[0], w[1], w[2]), Answers.BEYOND);
        }
    }

    public static void main(String[] args) {
        promise9Zone();
        promise10Rate();
        promise11Worth();
        promise12Back();
        A.end("WorthTest");
    }
}
