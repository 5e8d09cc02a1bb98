import java.util.ArrayList;
import java.util.List;

/** Tables with something in them, and all that calls can show of one. */
final class Looks {
    private Looks() {
    }

    /** Some of everything, nothing full: 5 cars, 3 shapes, 3 crashes, 2 treaties, 5 entries, and an image of less. */
    static KnockTable some() {
        KnockTable t = new KnockTable();
        t.car(0, 10000, 3200, 4);
        t.car(1, 8000, 5100, 2);
        t.car(2, 99999, 999, 0);
        t.car(0, 900, 12050, 0);
        t.mark(0, 0, 7);
        t.mark(0, 2, 44);
        t.mark(2, 0, 7);
        t.mark(2, 2, 44);
        t.shape(257, 0, 20);
        t.shape(256, 65535, 60);
        t.zone(0, 0, 400);
        t.zone(0, 1, 6);
        t.zone(0, 2, 3);
        t.zone(7, 1, 99);
        t.crash(1, 1050, 257);
        t.crash(201, 2055, 1539);
        t.tells(0, 0, 1);
        Answers.treaty(t, "l+m/2", 0, 5);
        t.enter(0, 0, 100, 3010);
        t.enter(0, 1, 9999, 3020);
        t.enter(0, 0, 200, 3030);
        t.draws(777);
        t.image();
        t.car(3, 5000, 0, 255);
        t.shape(0, 65535, 90);
        t.crash(302, 99999, 65535);
        t.tells(1, 1, 6);
        Answers.treaty(t, "c > k + b", 2, 500);
        Answers.write(t, "n*v");
        t.enter(1, 1, 12, 3040);
        t.enter(2, 1, 50, 33999);
        t.rate(0, 11);
        t.rate(4, 31);
        // these settle month 3: insurer 0 gets 100 of insurer 1, which gets 12 of insurer 2
        t.tell(1);
        t.tell(0);
        t.tell(88);
        t.tell(2);
        t.tell(0);
        t.tell(12);
        t.draws(-1000001);
        sheets(t);
        t.voice(2, 2, 5);
        return t;
    }

    private static void sheets(KnockTable t) {
        row(t, 0, 8, 10, 12, 13, 10, 40, 13);
        row(t, 1, 8, 1, 2, 3, 4);
        row(t, 2, 16, 300, 0, 500, 303);
    }

    static void row(KnockTable t, int sheet, int bits, int... v) {
        t.sheet(sheet, bits, v.length);
        for (int i = 0; i < v.length; i++) {
            t.put(sheet, i, v[i]);
        }
    }

    /** All that shows of a table, or of the first and last where there are many; the table is of no use then. */
    static List<Integer> look(KnockTable t) {
        List<Integer> all = new ArrayList<>();
        for (int what = 0; what <= 8; what++) {
            all.add(t.count(what));
        }
        for (int i = 0; i < t.count(8); i++) {
            all.add(t.trace(i));
        }
        lookAtCrashes(t, all);
        lookAtBooks(t, all);
        lookAtSheets(t, all);
        for (int what = 0; what < 7; what++) {
            all.add(t.rate(what, 0));
        }
        for (int zone = 0; zone < 8; zone++) {
            for (int what = 0; what < 3; what++) {
                all.add(t.zone(zone, what, 0));
            }
        }
        all.add(t.draws(0));
        all.add(t.restore());
        all.add(t.count(0));
        all.add(t.count(4));
        all.add(t.image());
        return all;
    }

    private static List<Integer> some(int n) {
        List<Integer> few = new ArrayList<>();
        for (int i = 0; i < n; i++) {
            if (i < 3 || i == n - 1) {
                few.add(i);
            }
        }
        return few;
    }

    private static void lookAtCrashes(KnockTable t, List<Integer> all) {
        for (int car : some(t.count(0))) {
            for (int what = 0; what <= 8; what++) {
                all.add(t.carIs(car, what));
            }
        }
        for (int crash : some(t.count(2))) {
            for (int what = 0; what <= 10; what++) {
                all.add(t.crashIs(crash, what));
            }
            for (int what = 0; what <= 5; what++) {
                all.add(t.worth(crash, 0, what));
                all.add(t.worth(crash, 1, what));
            }
        }
        all.add(t.core());
        for (int crash : some(t.count(2))) {
            all.add(t.tells(crash, 0, 0));
            all.add(t.tells(crash, 1, 0));
        }
    }

    private static void lookAtBooks(KnockTable t, List<Integer> all) {
        for (int entry : some(t.count(4))) {
            for (int what = 0; what <= 7; what++) {
                all.add(t.entryIs(entry, what));
            }
        }
        for (int treaty : some(t.count(3))) {
            all.add(t.says(treaty, 1, 20, 300, 4000));
        }
        for (int use = 0; use < 3; use++) {
            all.add(t.force(use, 0));
            all.add(t.force(use, 499));
            all.add(t.force(use, 999));
        }
        all.add(t.check(3));
        all.add(t.treaty(0, 999));
        all.add(t.says(t.count(3) - 1, 5, 60, 700, 8000));
    }

    private static void lookAtSheets(KnockTable t, List<Integer> all) {
        for (int sheet = 0; sheet < 4; sheet++) {
            all.add(t.chain(sheet, 0, 0));
            all.add(t.chain(sheet, 1, 1));
            all.add(t.chain(sheet, 3, 0));
            all.add(t.chain(sheet, 3, 1));
            all.add(t.chain(sheet, 999, 0));
            for (int i = 0; i < 8; i++) {
                all.add(t.put(sheet, i * i / 2, 0));
            }
        }
    }
}
