import java.util.function.Consumer;

/** Promises 36 to 41, and what the terms say of them: images, numbers that wait, checks, counts, what is told. */
public final class ToldTest extends Answers {

    // ---- 36 and 37: image, restore

    /** That a change is undone by restore(), as far as calls can show, and that it did change something. */
    private static void kept(String what, Consumer<KnockTable> change) {
        KnockTable changed = Looks.some();
        changed.image();
        change.accept(changed);
        KnockTable restored = Looks.some();
        restored.image();
        change.accept(restored);
        due(what + ": how many CRASHES", restored.restore(), 3);
        KnockTable same = Looks.some();
        same.image();
        holds(what + " is undone", Looks.look(restored).equals(Looks.look(same)));
        KnockTable still = Looks.some();
        still.image();
        holds(what + " shows", !Looks.look(changed).equals(Looks.look(still)));
    }

    @Says({"All (but SHEETS, THE TRACE, what told() tells, and how often this was done) is kept as an IMAGE,",
        "and how often this was done) is kept as an IMAGE, in place of one ahead: how often that was done."})
    static void promise36HowOften() {
        KnockTable t = new KnockTable();
        for (int i = 1; i <= 5; i++) {
            due("so often", t.image(), i);
            due("restore doesn't take one off", t.restore(), 0);
        }
    }

    @Says("in place of one ahead:")
    static void promise36InPlaceOfOneAhead() {
        KnockTable t = new KnockTable();
        t.car(0, 1, 0, 0);
        t.image();
        t.car(1, 1, 0, 0);
        t.crash(1, 0, 0);
        due("the second", t.image(), 2);
        t.crash(1, 0, 0);
        due("as the second", t.restore(), 1);
        due("two CARS", t.count(0), 2);
    }

    @Says("is kept as an IMAGE,")
    static void promise36WhatIsDoneThenIsNotInIt() {
        KnockTable t = new KnockTable();
        t.car(0, 5, 0, 0);
        t.image();
        t.mark(0, 0, 9);
        t.rate(1, 50);
        t.restore();
        due("the MARK", t.carIs(0, 6), -1);
        due("FALL", t.rate(1, 0), 15);
    }

    @Says("All is as the IMAGE has it,")
    static void promise37CarsAndMarks() {
        kept("a CAR", t -> t.car(3, 5, 0, 0));
        kept("a MARK", t -> t.mark(0, 1, 45));
        kept("a MARK of the last", t -> t.mark(4, 2, 0));
    }

    @Says("All is as the IMAGE has it,")
    static void promise37ShapesAndCrashes() {
        kept("a SHAPE", t -> t.shape(0, 65535, 100));
        kept("a CRASH", t -> t.crash(102, 0, 0));
        kept("a TELLING", t -> t.tells(0, 0, 2));
        kept("a TELLING of the other SIDE", t -> t.tells(2, 1, 4));
    }

    @Says("All is as the IMAGE has it,")
    static void promise37ZonesAndRates() {
        kept("PRICE", t -> t.zone(0, 0, 9999));
        kept("HOURS", t -> t.zone(3, 1, 9));
        kept("DELAY", t -> t.zone(7, 2, 60));
        for (int what = 0; what < 7; what++) {
            int which = what;
            kept("rate " + what, t -> t.rate(which, 50));
        }
    }

    @Says("All is as the IMAGE has it,")
    static void promise37TapeAndTreaties() {
        kept("a byte more", t -> t.feed('9', 1));
        kept("a TREATY", t -> t.treaty(0, 0));
        kept("a FAULT", t -> t.treaty(2, 0));
        kept("another TEXT on THE TAPE", t -> {
            t.treaty(2, 0);
            write(t, "1+2");
        });
        kept("a TREATY of another TEXT", t -> {
            t.treaty(2, 0);
            treaty(t, "1000", 1, 7);
        });
    }

    @Says("All is as the IMAGE has it,")
    static void promise37EntriesAndNumbersThatWait() {
        kept("an ENTRY", t -> t.enter(1, 0, 3, 0));
        kept("one that is TWICE", t -> t.enter(0, 0, 3, 0));
        kept("a number that waits", t -> t.tell(9));
        kept("a check", t -> t.check(3));
        kept("a check that is BEYOND", t -> t.check(34));
        kept("other numbers that wait", t -> {
            t.check(0);
            for (int i = 0; i < 6; i++) {
                t.tell(5);
            }
        });
    }

    @Says("All is as the IMAGE has it,")
    static void promise37Draws() {
        kept("w", t -> t.draws(1));
        kept("a PANEL", t -> t.panel(0));
    }

    @Says("(but SHEETS, THE TRACE, what told() tells, and how often this was done)")
    static void promise36SheetsAreNotKept() {
        KnockTable t = new KnockTable();
        t.sheet(0, 8, 2);
        t.image();
        t.sheet(0, 8, 4);
        t.sheet(1, 16, 2);
        t.restore();
        due("four numbers", t.chain(0, 0, 0), 2);
        due("another SHEET", t.chain(1, 0, 0), 1);
        t.sheet(0, 0, 0);
        t.restore();
        due("missing", t.chain(0, 0, 0), NONE);
    }

    @Says("(but SHEETS, THE TRACE, what told() tells, and how often this was done)")
    static void promise36TheTraceIsNotKept() {
        KnockTable t = Looks.some();
        t.image();
        t.voice(0, 0, 1);
        t.restore();
        due("one BODY", t.count(8), 1);
        due("10", t.trace(0), 10);
        KnockTable none = new KnockTable();
        none.image();
        none.car(0, 99999, 0, 0);
        none.car(1, 1, 0, 0);
        none.crash(1, 0, 0);
        none.enter(0, 0, 0, 0);
        none.voice(0, 1, 1);
        none.restore();
        due("of an ENTRY that is no more", none.count(8), 3);
    }

    @Says("(but SHEETS, THE TRACE, what told() tells, and how often this was done)")
    static void promise36WhatIsToldIsNotKept() {
        KnockTable t = new KnockTable();
        t.told(0);
        t.image();
        t.told(0);
        t.trace(0);
        t.restore();
        due("BEYOND", t.told(1), 2);
        due("NONE", t.told(2), 1);
        due("how often", t.image(), 2);
    }

    @Says({"All is as the IMAGE has it, which stays: how many CRASHES there are."})
    static void promise37TheImageStays() {
        KnockTable t = Looks.some();
        due("two at the time", t.restore(), 2);
        t.crash(1, 0, 0);
        t.crash(1, 0, 0);
        due("two again", t.restore(), 2);
        due("and again", t.restore(), 2);
        due("four CARS", t.count(0), 4);
        due("not so many as told then", t.count(4), 3);
    }

    @Says("NONE: there is none.")
    static void promise37None() {
        refused("none", NONE, KnockTable::new, KnockTable::restore);
        KnockTable t = new KnockTable();
        t.car(0, 1, 0, 0);
        t.restore();
        due("nothing is undone", t.count(0), 1);
    }

    @Says("All is as the IMAGE has it,")
    static void promise37WhatIsMadeAnewIsNew() {
        KnockTable t = Looks.some();
        t.image();
        int car = t.car(6, 7, 0, 0);
        t.mark(car, 0, 9);
        int crash = t.crash(100 * car, 0, 0);
        t.tells(crash, 1, 1);
        t.restore();
        due("the same number", t.car(7, 7, 0, 0), car);
        due("no MARKS", t.carIs(car, 6), -1);
        due("the same number", t.crash(100 * car, 0, 0), crash);
        due("no TELLINGS", t.tells(crash, 1, 0), 0);
    }

    @Says("All is as the IMAGE has it,")
    static void promise37AllThatThereCanBe() {
        KnockTable t = new KnockTable();
        for (int i = 0; i < 30; i++) {
            t.car(i % 11, 1 + i, 0, 0);
        }
        for (int i = 0; i < 20; i++) {
            t.crash(100 * i + i + 1, i, 0);
        }
        for (int i = 0; i < 40; i++) {
            t.enter(i % 20, i / 20, i, i);
        }
        for (int i = 0; i < 10; i++) {
            treaty(t, Integer.toString(i), 1, i);
        }
        for (int i = 0; i < 16; i++) {
            t.shape(0, 0, i);
        }
        t.image();
        KnockTable other = new KnockTable();
        due("apart from others", other.restore(), NONE);
        due("twenty", t.restore(), 20);
        due("the last CAR", t.carIs(29, 1), 30);
        due("the last CRASH", t.crashIs(19, 3), 19);
        due("the last ENTRY", t.entryIs(39, 2), 39);
        due("the last TREATY", t.says(9, 0, 0, 0, 0), 9);
        due("the last SHAPE", t.crashIs(0, 9), 15);
    }

    // ---- 38: tell

    private static KnockTable waiting(int n) {
        KnockTable t = new KnockTable();
        for (int i = 0; i < n; i++) {
            t.tell(i);
        }
        return t;
    }

    @Says("One more number waits: how many.")
    static void promise38HowMany() {
        KnockTable t = new KnockTable();
        int[] any = {MIN, MAX, 0, -1, BEYOND};
        for (int i = 1; i <= 33; i++) {
            due("so many", t.tell(any[i % 5]), i);
            due("counted", t.count(7), i);
        }
    }

    @Says("FULL: 33 wait.")
    static void promise38Full() {
        due("the 33rd", waiting(32).tell(0), 33);
        refused("a 34th", FULL, () -> waiting(33), t -> t.tell(0));
        KnockTable t = waiting(33);
        t.check(0);
        due("there is room then", t.tell(0), 1);
    }

    // ---- 39: check

    /** In month 3 insurer 0 gets 100 of insurer 1. */
    private static KnockTable owing() {
        KnockTable t = new KnockTable();
        t.car(0, 99999, 0, 0);
        t.car(1, 99999, 0, 0);
        t.zone(0, 0, 1000);
        t.crash(1, 0, 257);
        t.enter(0, 0, 100, 3000);
        return t;
    }

    private static int check(int month, int... numbers) {
        KnockTable t = owing();
        for (int v : numbers) {
            t.tell(v);
        }
        int answer = t.check(month);
        due("none wait then", t.count(7), 0);
        return answer;
    }

    @Says({"The numbers that wait (none do then) are payments of a MONTH, three by three:",
        "from which INSURER, to which other one, how much (1 or more):", "0 if with them all POSITIONS are 0;"})
    static void promise39Settled() {
        due("in one", check(3, 1, 0, 100), 0);
        due("in two", check(3, 1, 0, 60, 1, 0, 40), 0);
        due("by way of another", check(3, 1, 10, 100, 10, 0, 100), 0);
        due("there and back", check(3, 1, 0, 101, 0, 1, 1), 0);
        due("in eleven", check(3, 1, 0, 90, 1, 0, 1, 1, 0, 1, 1, 0, 1, 1, 0, 1, 1, 0, 1, 1, 0, 1, 1, 0, 1, 1, 0, 1, 1, 0, 1, 1, 0, 1), 0);
        due("nothing is due", check(0), 0);
        due("a round", check(0, 0, 1, 5, 1, 2, 5, 2, 0, 5), 0);
    }

    @Says("or, if all are, 1 and how many there are.")
    static void promise39AllAsToldButNotSettled() {
        due("the wrong way", check(3, 0, 1, 100), 4);
        due("too little", check(3, 1, 0, 99), 4);
        due("too much", check(3, 1, 0, 101), 4);
        due("another one's", check(3, 1, 2, 100), 4);
        due("of another MONTH", check(4, 1, 0, 100), 4);
        due("two of them", check(3, 1, 0, 50, 1, 0, 51), 7);
        due("none at all", check(3), 1);
        int[] most = new int[33];
        for (int i = 0; i < 33; i++) {
            most[i] = i % 3 == 0 ? 1 : i % 3 == 1 ? 0 : 10;
        }
        due("eleven", check(3, most), 34);
    }

    @Says("else 1 and the place of the first number that isn't as told")
    static void promise39FromWhich() {
        due("most", check(0, 10, 0, 1), 4);
        for (int wrong : new int[] {-1, 11, MIN, MAX}) {
            due("from " + wrong, check(3, wrong, 0, 100), 1);
            due("from " + wrong + " in the second", check(3, 1, 0, 100, wrong, 0, 1), 4);
        }
    }

    @Says({"from which INSURER, to which other one,", "else 1 and the place of the first number that isn't as told"})
    static void promise39ToWhichOther() {
        due("most", check(0, 0, 10, 1), 4);
        for (int wrong : new int[] {-1, 11, MIN, MAX, 1}) {
            due("to " + wrong, check(3, 1, wrong, 100), 2);
            due("to " + wrong + " in the second", check(3, 1, 0, 100, 1, wrong, 1), 5);
        }
        due("0 to itself", check(3, 0, 0, 100), 2);
    }

    @Says({"how much (1 or more)", "else 1 and the place of the first number that isn't as told"})
    static void promise39HowMuch() {
        for (int wrong : new int[] {0, -1, MIN}) {
            due("much " + wrong, check(3, 1, 0, wrong), 3);
            due("much " + wrong + " in the second", check(3, 1, 0, 100, 1, 0, wrong), 6);
        }
        due("1", check(3, 1, 0, 1), 4);
        due("as its INSURERS", check(3, 1, 0, 1, 1, 0, 99), 0);
    }

    @Says("(one that lacks, too),")
    static void promise39OneThatLacks() {
        due("to", check(3, 1), 2);
        due("how much", check(3, 1, 0), 3);
        due("to, behind what settles", check(3, 1, 0, 100, 5), 5);
        due("how much, behind what settles", check(3, 1, 0, 100, 5, 6), 6);
        due("where nothing is due", check(0, 0), 2);
    }

    @Says("the first number that isn't as told")
    static void promise39TheFirstOfSeveral() {
        due("from, and to", check(3, 11, 11, 0), 1);
        due("to, and how much", check(3, 1, 11, 0), 2);
        due("how much, and another from", check(3, 1, 0, 0, 99, 99, 0), 3);
        due("how much, and one that lacks", check(3, 1, 0, 0, 99), 3);
        due("wrong, though the others settle", check(3, 1, 0, 100, 5, 5, 1), 5);
    }

    @Says("0 if with them all POSITIONS are 0;")
    static void promise39SumsDoNotWrap() {
        due("twice 2147483647 and 2", check(0, 0, 1, MAX, 0, 1, MAX, 0, 1, 2), 10);
        due("there and back", check(0, 0, 1, MAX, 1, 0, MAX), 0);
        due("far and back", check(0, 0, 1, MAX, 0, 1, MAX, 1, 0, MAX, 1, 0, MAX), 0);
    }

    @Says("0 if with them all POSITIONS are 0;")
    static void promise39NothingIsPaidInTheBooks() {
        KnockTable t = owing();
        t.tell(1);
        t.tell(0);
        t.tell(100);
        t.check(3);
        due("the POSITION stays", t.position(0, 3), 100);
        due("and is asked for again", t.check(3), 1);
    }

    @Says("The numbers that wait (none do then)")
    static void promise39NumbersOfAnEarlierCheckAreGone() {
        KnockTable t = owing();
        t.tell(99);
        due("wrong", t.check(0), 1);
        due("gone", t.check(0), 0);
        for (int v : new int[] {1, 0, 100, 99}) {
            t.tell(v);
        }
        due("the fourth is wrong", t.check(3), 4);
        for (int v : new int[] {1, 0, 100}) {
            t.tell(v);
        }
        due("there is no fourth", t.check(3), 0);
    }

    @Says("BEYOND (none wait then, too).")
    static void promise39NoSuchMonth() {
        for (int wrong : new int[] {-1, 34, MIN, MAX}) {
            due("month " + wrong, check(wrong, 1, 0, 100), BEYOND);
            due("month " + wrong + " with a number that isn't as told", check(wrong, 99), BEYOND);
            due("month " + wrong + " without numbers", check(wrong), BEYOND);
        }
        due("the last", check(33), 0);
        KnockTable t = owing();
        t.check(34);
        due("counted", t.told(1), 1);
    }

    // ---- 40: count

    @Says("0 CARS, 1 SHAPES, 2 CRASHES, 3 TREATIES, 4 ENTRIES, 5 of these those that count, 6 bytes of THE TAPE,"
        + " 7 numbers that wait, 8 BODIES in THE TRACE.")
    static void promise40EachByItself() {
        KnockTable t = Looks.some();
        int[] due = {5, 3, 3, 2, 5, 4, 3, 6, 9};
        for (int what = 0; what <= 8; what++) {
            due("what " + what, t.count(what), due[what]);
        }
    }

    @Says("5 of these those that count,")
    static void promise40ThoseThatCount() {
        KnockTable t = owing();
        due("the first", t.count(5), 1);
        t.enter(0, 0, 5, 0);
        due("not TWICE", t.count(5), 1);
        t.enter(0, 1, 999999, 0);
        due("DISPUTED, which count", t.count(5), 2);
        t.enter(0, 1, 1, 0);
        due("not TWICE what is DISPUTED", t.count(5), 2);
        due("of four", t.count(4), 4);
    }

    @Says("BEYOND.")
    static void promise40NoSuchWhat() {
        for (int wrong : new int[] {-1, 9, MIN, MAX}) {
            beyond("what " + wrong, t -> t.count(wrong));
        }
    }

    // ---- 41: told

    @Says({"How many acts have answered an ERROR LOW - k (k 1 .. 6);",
        "LOW is -1000000; LOW - 1 BEYOND, LOW - 2 NONE, LOW - 3 STATE, LOW - 4 FULL, LOW - 5 KIND, LOW - 6 PARTED."})
    static void promise41EachErrorByItself() {
        int[] due = new int[7];
        KnockTable t = new KnockTable();
        t.car(0, 1, 0, 0);
        t.car(1, 1, 0, 0);
        t.crash(1, 0, 0);
        t.enter(0, 0, 0, 0);
        write(t, " ".repeat(60));
        for (int round = 1; round <= 3; round++) {
            due("BEYOND", t.carIs(9, 0), -1000001);
            due("NONE", t.trace(99), -1000002);
            due("STATE", t.sheet(0, 8, -1), -1000003);
            due("FULL", t.feed(0, 1), -1000004);
            due("KIND", t.crash(0, 0, 0), -1000005);
            due("PARTED", t.voice(0, 3, 0), -1000006);
            for (int k = 1; k <= 6; k++) {
                due[k]++;
                due("told " + k, t.told(k), due[k]);
            }
        }
    }

    @Says("How many acts have answered an ERROR")
    static void promise41NoneAtFirst() {
        for (int k = 1; k <= 6; k++) {
            due("told " + k, new KnockTable().told(k), 0);
        }
    }

    @Says("BEYOND: another k (counted, too).")
    static void promise41AnotherK() {
        KnockTable t = new KnockTable();
        int n = 0;
        for (int wrong : new int[] {0, -1, 7, MIN, MAX, BEYOND}) {
            due("k " + wrong, t.told(wrong), BEYOND);
            n++;
            due("counted, too", t.told(1), n);
        }
        for (int wrong : new int[] {0, 7}) {
            beyond("k " + wrong, x -> x.told(wrong));
        }
    }

    @Says("How many acts have answered an ERROR")
    static void promise41AFaultIsNoError() {
        KnockTable t = new KnockTable();
        t.treaty(0, 0);
        for (int k = 1; k <= 6; k++) {
            due("told " + k, t.told(k), 0);
        }
    }

    @Says({"ERRORS are answers below -1000000:", "How many acts have answered an ERROR LOW - k"})
    static void promise41AnswersAsLowAreNotCounted() {
        KnockTable t = new KnockTable();
        treaty(t, "-l", 0, 0);
        for (int k = 1; k <= 6; k++) {
            t.says(0, 1000000 + k, 0, 0, 0);
            t.draws(-1000000 - k);
        }
        t.draws(0);
        for (int k = 1; k <= 6; k++) {
            due("told " + k, t.told(k), 0);
        }
    }

    public static void main(String[] args) throws ReflectiveOperationException {
        run(ToldTest.class);
    }
}
