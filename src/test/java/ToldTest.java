/** Promises 36 to 41: images, numbers that wait, checks, counts, what is told. */
public final class ToldTest {
    private static final Answers A = new Answers();
    private static final int MIN = Integer.MIN_VALUE;
    private static final int MAX = Integer.MAX_VALUE;

    private static KnockTable some() {
        KnockTable t = new KnockTable();
        t.car(0, 99999, 1111, 0);
        t.car(1, 99999, 2222, 0);
        t.car(2, 99999, 0, 0);
        t.mark(0, 1, 44);
        t.shape(0, 65535, 30);
        t.shape(0, 65535, 50);
        t.zone(0, 0, 1000);
        t.crash(1, 1234, 257);
        t.crash(102, 0, 1);
        t.tells(0, 0, 1);
        Answers.treaty(t, "l+m", 0, 5);
        Answers.write(t, "c+k");
        t.enter(0, 0, 100, 3000);
        t.enter(0, 0, 200, 3000);
        t.tell(1);
        t.tell(0);
        t.tell(100);
        t.draws(777);
        return t;
    }

    /** All that an image keeps, as far as calls that change nothing can ask for it. */
    private static long[] look(KnockTable t) {
        java.util.List<Integer> all = new java.util.ArrayList<>();
        for (int what = 0; what <= 7; what++) {
            all.add(t.count(what));
        }
        for (int car = 0; car < t.count(0); car++) {
            for (int what = 0; what < 9; what++) {
                all.add(t.carIs(car, what));
            }
        }
        for (int crash = 0; crash < t.count(2); crash++) {
            for (int what = 0; what <= 10; what++) {
                all.add(t.crashIs(crash, what));
            }
            for (int what = 0; what <= 5; what++) {
                all.add(t.worth(crash, 0, what));
            }
        }
        for (int entry = 0; entry < t.count(4); entry++) {
            for (int what = 0; what < 8; what++) {
                all.add(t.entryIs(entry, what));
            }
        }
        for (int treaty = 0; treaty < t.count(3); treaty++) {
            all.add(t.says(treaty, 1, 20, 300, 4000));
        }
        int w = t.draws(0);
        t.draws(w);
        all.add(w);
        for (int what = 0; what < 7; what++) {
            int was = t.rate(what, 0);
            t.rate(what, was);
            all.add(was);
        }
        return all.stream().mapToLong(v -> v).toArray();
    }

    private static void promises36And37ImageRestore() {
        KnockTable t = some();
        A.due("37: none", t.restore(), Answers.NONE);
        A.due("36: first", t.image(), 1);
        long[] was = look(t);
        t.sheet(0, 8, 2);
        change(t);
        int beyond = t.told(1);
        A.due("37: crashes", t.restore(), 2);
        A.due("37: all is as it was", java.util.Arrays.equals(was, look(t)) ? 1 : 0, 1);
        A.due("37: told stays", t.told(1), beyond);
        A.due("37: sheets stay", t.put(0, 1, 1), 1);
        A.due("37: the trace stays", t.trace(0), 40);
        A.due("37: the numbers that wait are back", t.check(3), 0);
        A.due("37: the tape is back", t.treaty(2, 0), 1);
        A.due("37: its text", t.says(1, 5, 6, 0, 0), 11);
        A.due("37: the image stays", t.restore(), 2);
        A.due("37: once more", java.util.Arrays.equals(was, look(t)) ? 1 : 0, 1);
        again(t);
    }

    private static void change(KnockTable t) {
        t.car(3, 5, 0, 0);
        t.mark(0, 1, 45);
        t.mark(2, 1, 45);
        t.shape(0, 0, 100);
        t.crash(201, 0, 0);
        t.crash(203, 0, 0);
        t.tells(0, 0, 2);
        t.tells(1, 1, 1);
        t.treaty(2, 0);
        Answers.treaty(t, "7", 0, 0);
        t.enter(1, 0, 3, 0);
        t.check(0);
        t.tell(9);
        t.draws(1);
        t.rate(0, 99);
        t.rate(6, 9);
        t.zone(0, 0, 1);
        t.voice(1, 0, 3);
        t.told(0);
    }

    private static void again(KnockTable t) {
        t.car(5, 7, 0, 0);
        A.due("36: in place of the one ahead", t.image(), 2);
        t.restore();
        A.due("37: the new one", t.count(0), 4);
        t.car(6, 7, 0, 0);
        t.mark(4, 0, 9);
        t.restore();
        t.car(6, 7, 0, 0);
        A.due("37: a car made anew has no marks", t.carIs(4, 6), -1);
        t.restore();
        t.crash(301, 0, 0);
        t.tells(2, 0, 1);
        t.restore();
        t.crash(301, 0, 0);
        A.due("37: a crash made anew has no tellings", t.tells(2, 0, 0), 0);
        A.due("36: how often isn't in it", t.image(), 3);
    }

    private static void promise38Tell() {
        KnockTable t = new KnockTable();
        for (int i = 1; i <= 33; i++) {
            A.due("38: waits", t.tell(i % 2 == 0 ? MIN : MAX), i);
        }
        A.due("38: full", t.tell(0), Answers.FULL);
        A.due("38: still 33", t.count(7), 33);
        A.due("38: none is wrong but the first", t.check(0), 1);
        A.due("38: none wait", t.count(7), 0);
    }

    private static int check(KnockTable t, int month, int... numbers) {
        for (int v : numbers) {
            t.tell(v);
        }
        int answer = t.check(month);
        A.due("39: none wait", t.count(7), 0);
        return answer;
    }

    private static void promise39Check() {
        KnockTable t = some();
        t.check(0);
        // insurer 0 gets 100 of insurer 1 in month 3
        A.due("39: settled", check(t, 3, 1, 0, 100), 0);
        A.due("39: in two steps", check(t, 3, 1, 0, 60, 1, 0, 40), 0);
        A.due("39: by way of another", check(t, 3, 1, 10, 100, 10, 0, 100), 0);
        A.due("39: there and back", check(t, 3, 1, 0, 101, 0, 1, 1), 0);
        A.due("39: the wrong way", check(t, 3, 0, 1, 100), 4);
        A.due("39: too little", check(t, 3, 1, 0, 99), 4);
        A.due("39: nothing at all", check(t, 3), 1);
        A.due("39: nothing is due", check(t, 0), 0);
        A.due("39: what wasn't due", check(t, 0, 1, 0, 100), 4);
        A.due("39: from", check(t, 3, 11, 0, 100), 1);
        A.due("39: from", check(t, 3, -1, 0, 100), 1);
        A.due("39: to", check(t, 3, 1, 11, 100), 2);
        A.due("39: to", check(t, 3, 1, -1, 100), 2);
        A.due("39: to itself", check(t, 3, 1, 1, 100), 2);
        A.due("39: nothing paid", check(t, 3, 1, 0, 0), 3);
        A.due("39: less than nothing", check(t, 3, 1, 0, MIN), 3);
        A.due("39: to lacks", check(t, 3, 1), 2);
        A.due("39: coin lacks", check(t, 3, 1, 0), 3);
        A.due("39: settled, but one lacks", check(t, 3, 1, 0, 100, 5, 6), 6);
        A.due("39: settled, but one is wrong", check(t, 3, 1, 0, 100, 5, 5, 1), 5);
        A.due("39: the first that is wrong", check(t, 3, 1, 0, 0, 99), 3);
        A.due("39: sums don't wrap", check(t, 0, 0, 1, MAX, 0, 1, MAX, 0, 1, 2), 10);
        A.due("39: month", check(t, 34, 1, 0, 100), Answers.BEYOND);
        A.due("39: month", check(t, -1, 99), Answers.BEYOND);
        int[] most = new int[33];
        for (int i = 0; i < 33; i++) {
            most[i] = i % 3 == 0 ? 1 : i % 3 == 1 ? 0 : i == 32 ? 90 : 1;
        }
        A.due("39: eleven payments", check(t, 3, most), 0);
    }

    private static void promise40Count() {
        KnockTable t = some();
        int[] due = {3, 2, 2, 1, 2, 1, 3, 3, 0};
        for (int what = 0; what <= 8; what++) {
            A.due("40: " + what, t.count(what), due[what]);
        }
        t.voice(0, 1, 0);
        A.due("40: bodies", t.count(8), 3);
        A.due("40: below", t.count(-1), Answers.BEYOND);
        A.due("40: above", t.count(9), Answers.BEYOND);
        A.due("40: wild", t.count(MIN), Answers.BEYOND);
    }

    private static void promise41Told() {
        KnockTable t = new KnockTable();
        for (int k = 1; k <= 6; k++) {
            A.due("41: none yet", t.told(k), 0);
        }
        A.due("41: k", t.told(0), Answers.BEYOND);
        A.due("41: k", t.told(7), Answers.BEYOND);
        A.due("41: k", t.told(MIN), Answers.BEYOND);
        A.due("41: these are counted, too", t.told(1), 3);
        t.trace(0);
        t.restore();
        A.due("41: none", t.told(2), 2);
        t.sheet(0, 8, -1);
        A.due("41: state", t.told(3), 1);
        for (int i = 0; i < 35; i++) {
            t.tell(0);
        }
        A.due("41: full", t.told(4), 2);
        t.car(0, 1, 0, 0);
        t.crash(0, 0, 0);
        A.due("41: kind", t.told(5), 1);
        t.car(1, 1, 0, 0);
        t.crash(1, 0, 0);
        t.enter(0, 0, 0, 0);
        t.voice(0, 3, 1);
        A.due("41: parted", t.told(6), 1);
        A.due("41: nothing else was counted", t.told(1), 3);
    }

    public static void main(String[] args) {
        promises36And37ImageRestore();
        promise38Tell();
        promise39Check();
        promise40Count();
        promise41Told();
        A.end("ToldTest");
    }
}
