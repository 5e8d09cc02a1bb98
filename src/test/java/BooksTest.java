/** Promises 17 to 23, and what the terms say of them: entries, kinds, lateness, positions, what is held, payments. */
public final class BooksTest extends Answers {
    private static final int OPEN = 2;

    /** Eleven cars, one of each insurer; in crash i (day 10) car i meets car i + 1; each side's claim is 500. */
    private static KnockTable eleven() {
        KnockTable t = new KnockTable();
        for (int i = 0; i < 11; i++) {
            t.car(i, 99999, 0, 0);
        }
        t.zone(0, 0, 1000);
        for (int i = 0; i < 10; i++) {
            t.crash(100 * i + i + 1, 1000, 257);
        }
        return t;
    }

    /** As many entries, of side 1 of the last crash, in month 3. */
    private static KnockTable entries(int n) {
        KnockTable t = eleven();
        for (int i = 0; i < n; i++) {
            t.enter(9, 1, 100 + i, 3000);
        }
        return t;
    }

    // ---- 17: enter

    @Says({"An ENTRY: its number.", "BOOKS: ENTRIES 0, 1, .. (at most 40)"})
    static void promise17NumbersFrom0On() {
        KnockTable t = eleven();
        for (int i = 0; i < 40; i++) {
            due("number", t.enter(i % 10, i / 10 % 2, i, i), i);
        }
        due("all forty", t.count(4), 40);
    }

    @Says({"when: 1000 times the MONTH, and the DAY.", "in a MONTH (0 .. 33), on a DAY.", "DAYS are 0 .. 999.", "BEYOND."})
    static void promise17MonthAndDay() {
        int[][] good = {{0, 0, 0}, {999, 0, 999}, {1000, 1, 0}, {33000, 33, 0}, {33999, 33, 999}, {12345, 12, 345}};
        KnockTable t = eleven();
        for (int[] g : good) {
            int entry = t.enter(0, 0, 1, g[0]);
            due("MONTH of " + g[0], t.entryIs(entry, 3), g[1]);
            due("DAY of " + g[0], t.entryIs(entry, 4), g[2]);
        }
        for (int wrong : new int[] {-1, -1000, 34000, MIN, MAX}) {
            beyond("when " + wrong, x -> x.enter(0, 0, 0, wrong));
        }
    }

    @Says({"how much (0 .. 999999),", "BEYOND."})
    static void promise17HowMuch() {
        KnockTable t = eleven();
        due("least", t.entryIs(t.enter(0, 0, 0, 0), 2), 0);
        due("most", t.entryIs(t.enter(0, 0, 999999, 0), 2), 999999);
        for (int wrong : new int[] {-1, 1000000, MIN, MAX}) {
            beyond("much " + wrong, x -> x.enter(0, 0, wrong, 0));
        }
    }

    @Says("BEYOND.")
    static void promise17NoSuchCrash() {
        for (int wrong : new int[] {-1, 3, 20, MIN, MAX}) {
            beyond("crash " + wrong, t -> t.enter(wrong, 0, 0, 0));
        }
        due("the last", Looks.some().enter(2, 0, 0, 0), 5);
    }

    @Says({"BEYOND.", "of a CRASH and a SIDE (its INSURER claims from the other SIDE's),"})
    static void promise17NoSuchSide() {
        for (int wrong : new int[] {-1, 2, MIN, MAX}) {
            beyond("side " + wrong, t -> t.enter(0, wrong, 0, 0));
        }
    }

    @Says({"FULL.", "ENTRIES 0, 1, .. (at most 40)"})
    static void promise17Full() {
        due("a 40th", entries(39).enter(0, 0, 0, 0), 39);
        refused("a 41st", FULL, () -> entries(40), t -> t.enter(0, 0, 0, 0));
    }

    @Says({"BEYOND. FULL.", "Each act tells its ERRORS in the order in which they are asked;"})
    static void promise17BeyondIsAskedAheadOfFull() {
        refused("crash", BEYOND, () -> entries(40), t -> t.enter(10, 0, 0, 0));
        refused("side", BEYOND, () -> entries(40), t -> t.enter(0, 2, 0, 0));
        refused("much", BEYOND, () -> entries(40), t -> t.enter(0, 0, 1000000, 0));
        refused("when", BEYOND, () -> entries(40), t -> t.enter(0, 0, 0, 34000));
    }

    // ---- 18: entryIs

    @Says("Of an ENTRY: 0 the CRASH, 1 the SIDE, 2 how much, 3 the MONTH, 4 the DAY, 5 the first ENTRY of its CRASH and SIDE,"
        + " 6 1 if it is DISPUTED, else 0, 7 KIND.")
    static void promise18WhatAnEntryIs() {
        KnockTable t = eleven();
        t.enter(3, 1, 500, 33999);
        t.enter(3, 0, 501, 12345);
        t.enter(3, 1, 7, 0);
        int[][] due = {{3, 1, 500, 33, 999, 0, 0, 1}, {3, 0, 501, 12, 345, 1, 1, 3}, {3, 1, 7, 0, 0, 0, 0, 4}};
        for (int e = 0; e < 3; e++) {
            for (int what = 0; what < 8; what++) {
                due("entry " + e + " what " + what, t.entryIs(e, what), due[e][what]);
            }
        }
    }

    @Says({"5 the first ENTRY of its CRASH and SIDE,", "TWICE are ENTRIES of one CRASH and SIDE:"})
    static void promise18TheFirstOfItsCrashAndSide() {
        KnockTable t = eleven();
        int[][] told = {{0, 0, 0}, {0, 1, 1}, {1, 0, 2}, {1, 1, 3}, {0, 0, 0}, {1, 1, 3}, {0, 0, 0}, {9, 1, 7}};
        for (int i = 0; i < told.length; i++) {
            t.enter(told[i][0], told[i][1], 1, 1000 * i);
            due("first of " + i, t.entryIs(i, 5), told[i][2]);
        }
    }

    private static int disputed(int much, int bound) {
        KnockTable t = eleven();
        t.rate(5, bound);
        t.enter(4, 0, much, 0);
        return t.entryIs(0, 6);
    }

    @Says("Without: c > k + b.")
    static void promise18DisputedWithoutOpen() {
        due("as CLAIM", disputed(500, 0), 0);
        due("1 more", disputed(501, 0), 1);
        due("as CLAIM and BOUND", disputed(509, 9), 0);
        due("1 more than these", disputed(510, 9), 1);
        due("the greatest BOUND", disputed(10499, 9999), 0);
        due("nothing", disputed(0, 0), 0);
        due("the most", disputed(999999, 9999), 1);
    }

    @Says({"DISPUTED by OPEN as on the DAY of the CRASH;", "2 OPEN, whether a claim in a book is disputed:"})
    static void promise18DisputedByOpen() {
        KnockTable t = eleven();
        t.enter(0, 0, 700, 999);
        t.rate(5, 9);
        treaty(t, "0", OPEN, 11);
        due("not by one that is in force on the ENTRY's DAY alone", t.entryIs(0, 6), 1);
        treaty(t, "c=700&k=500&b=9", OPEN, 10);
        due("c, k and b", t.entryIs(0, 6), 1);
        treaty(t, "c-700", OPEN, 9);
        due("0 isn't DISPUTED", t.entryIs(0, 6), 0);
        treaty(t, "0-b", OPEN, 9);
        due("what is not 0 is", t.entryIs(0, 6), 1);
        treaty(t, "0", 0, 0);
        treaty(t, "0", 1, 0);
        due("by no other USE", t.entryIs(0, 6), 1);
    }

    @Says({"KINDS: 0 ENTRY; 1 DENT under ENTRY: not TOTAL; 2 LOSS under DENT: TOTAL;", "7 KIND."})
    static void promise18ADentAndALoss() {
        KnockTable t = eleven();
        t.enter(0, 0, 500, 0);
        due("not TOTAL", t.entryIs(0, 7), 1);
        t.rate(2, 0);
        due("TOTAL", t.entryIs(0, 7), 2);
        KnockTable one = new KnockTable();
        one.car(0, 100, 0, 0);
        one.car(1, 99999, 0, 0);
        one.zone(0, 0, 1000);
        one.crash(1, 0, 257);
        one.enter(0, 1, 1, 0);
        one.enter(0, 0, 1, 0);
        due("by its own SIDE", one.entryIs(0, 7), 1);
        due("by its own SIDE", one.entryIs(1, 7), 2);
    }

    @Says("3 HELD under ENTRY: DISPUTED; 4 AGAIN under HELD: it counts nowhere (the greatest that it is).")
    static void promise18TheGreatestKindThatItIs() {
        KnockTable t = eleven();
        t.enter(0, 0, 501, 0);
        due("HELD, not TOTAL", t.entryIs(0, 7), 3);
        t.rate(4, 0);
        t.rate(3, 100);
        t.rate(2, 0);
        due("HELD, though TOTAL", t.entryIs(0, 7), 3);
        t.enter(0, 0, 0, 0);
        due("AGAIN, though TOTAL and not DISPUTED", t.entryIs(1, 7), 4);
        t.enter(0, 0, 999, 0);
        due("AGAIN, though DISPUTED", t.entryIs(2, 7), 4);
        due("which it is all the same", t.entryIs(2, 6), 1);
    }

    @Says("BEYOND.")
    static void promise18NoSuchEntry() {
        for (int wrong : new int[] {-1, 5, 40, MIN, MAX}) {
            beyond("entry " + wrong, t -> t.entryIs(wrong, 0));
        }
        due("the last", Looks.some().entryIs(4, 0), 2);
        refused("of forty", BEYOND, () -> entries(40), t -> t.entryIs(40, 0));
    }

    @Says("BEYOND.")
    static void promise18NoSuchWhat() {
        for (int wrong : new int[] {-1, 8, MIN, MAX}) {
            beyond("what " + wrong, t -> t.entryIs(0, wrong));
        }
    }

    // ---- 19: as

    /** Entries 0 .. 3: a DENT, a LOSS, HELD, AGAIN; how much 11, 12, 9999, 14. */
    private static KnockTable kinds() {
        KnockTable t = eleven();
        t.car(10, 100, 0, 0);
        t.crash(1100, 0, 257);
        t.enter(0, 0, 11, 0);
        t.enter(10, 0, 12, 0);
        t.enter(1, 0, 9999, 0);
        t.enter(0, 0, 14, 0);
        return t;
    }

    private static void asKinds(int entry, int... due) {
        for (int kind = 0; kind < 5; kind++) {
            int k = kind;
            if (due[kind] == KIND) {
                refused("as " + kind, KIND, BooksTest::kinds, t -> t.as(entry, k));
            } else {
                due("as " + kind, kinds().as(entry, kind), due[kind]);
            }
        }
    }

    @Says({"An ENTRY as one of a KIND: how much.", "KIND: it isn't of that KIND, nor of one under it.",
        "1 DENT under ENTRY: not TOTAL;"})
    static void promise19ADent() {
        asKinds(0, 11, 11, KIND, KIND, KIND);
    }

    @Says({"KIND: it isn't of that KIND, nor of one under it.", "2 LOSS under DENT: TOTAL;"})
    static void promise19ALoss() {
        asKinds(1, 12, 12, 12, KIND, KIND);
    }

    @Says({"KIND: it isn't of that KIND, nor of one under it.", "3 HELD under ENTRY: DISPUTED;"})
    static void promise19Held() {
        asKinds(2, 9999, KIND, KIND, 9999, KIND);
    }

    @Says({"KIND: it isn't of that KIND, nor of one under it.", "4 AGAIN under HELD: it counts nowhere"})
    static void promise19Again() {
        asKinds(3, 14, KIND, KIND, 14, 14);
    }

    @Says("BEYOND.")
    static void promise19NoSuchEntry() {
        for (int wrong : new int[] {-1, 5, 40, MIN, MAX}) {
            beyond("entry " + wrong, t -> t.as(wrong, 0));
        }
    }

    @Says({"BEYOND. KIND:", "Each act tells its ERRORS in the order in which they are asked;"})
    static void promise19NoSuchKind() {
        for (int wrong : new int[] {-1, 5, MIN, MAX}) {
            beyond("kind " + wrong, t -> t.as(0, wrong));
        }
    }

    // ---- 20: late

    private static int late(int much, int entered, int interest, int day) {
        KnockTable t = eleven();
        t.enter(0, 0, much, entered);
        t.rate(6, interest);
        return t.late(0, day);
    }

    @Says("Coin for an ENTRY that is paid on a DAY: for each DAY behind that of the ENTRY and 30")
    static void promise20ThirtyDaysAreFree() {
        due("on its DAY", late(1000, 100, 1, 100), 0);
        due("ahead of it", late(1000, 100, 1, 0), 0);
        due("the 30th", late(1000, 100, 1, 130), 0);
        due("the 31st", late(1000, 100, 1, 131), 1);
        due("the 32nd", late(1000, 100, 1, 132), 2);
        due("of the last DAY", late(1000, 999, 50, 999), 0);
        due("on the last DAY", late(1000, 968, 1, 999), 1);
        due("long ahead", late(999999, 999, 50, 0), 0);
    }

    @Says("INTEREST thousandths of how much, all together")
    static void promise20CutAllTogether() {
        due("1.999", late(1999, 0, 1, 31), 1);
        due("3.998", late(1999, 0, 1, 32), 3);
        due("0.998", late(499, 0, 1, 32), 0);
        due("1.497", late(499, 0, 1, 33), 1);
        due("of nothing", late(0, 0, 50, 999), 0);
        due("no INTEREST", late(999999, 0, 0, 999), 0);
        due("two thousandths", late(500, 0, 2, 31), 1);
    }

    @Says("(2000000000 at most).")
    static void promise20TheMost() {
        due("969 days", late(999999, 0, 50, 999), 48449951);
        due("where how much by days would wrap", late(999999, 0, 3, 999), 2906997);
    }

    @Says("INTEREST thousandths of how much, all together")
    static void promise20InNoMonth() {
        due("the MONTH doesn't matter", late(1000, 33100, 1, 131), 1);
        KnockTable t = eleven();
        t.enter(0, 0, 1000, 0);
        t.enter(0, 0, 2000, 0);
        t.enter(1, 0, 9000, 0);
        due("for one that is TWICE, too", t.late(1, 31), 2);
        due("for one that is DISPUTED, too", t.late(2, 31), 9);
    }

    @Says("BEYOND.")
    static void promise20NoSuchEntry() {
        for (int wrong : new int[] {-1, 5, 40, MIN, MAX}) {
            beyond("entry " + wrong, t -> t.late(wrong, 0));
        }
    }

    @Says({"BEYOND.", "DAYS are 0 .. 999."})
    static void promise20NoSuchDay() {
        for (int wrong : new int[] {-1, 1000, MIN, MAX}) {
            beyond("day " + wrong, t -> t.late(0, wrong));
        }
    }

    // ---- 21: position

    @Says({"POSITION.", "POSITION of an INSURER in a MONTH: what it gets by ENTRIES that count and aren't DISPUTED,"
        + " less what it owes by them.", "(its INSURER claims from the other SIDE's)"})
    static void promise21GetsLessOwes() {
        KnockTable t = eleven();
        t.enter(0, 0, 100, 5000);
        t.enter(0, 1, 30, 5000);
        t.enter(1, 1, 7, 5000);
        due("gets 100, owes 30", t.position(0, 5), 70);
        due("owes 100 and 7, gets 30", t.position(1, 5), -77);
        due("gets 7", t.position(2, 5), 7);
        due("has no part", t.position(3, 5), 0);
    }

    @Says("in a MONTH")
    static void promise21EachMonthByItself() {
        KnockTable t = eleven();
        t.enter(0, 0, 100, 0);
        t.enter(1, 0, 200, 33999);
        t.enter(2, 0, 300, 32999);
        due("the first", t.position(0, 0), 100);
        due("the last", t.position(1, 33), 200);
        due("the one ahead of it", t.position(2, 32), 300);
        due("not in another", t.position(0, 1), 0);
        due("not in the last", t.position(2, 33), -200);
    }

    @Says("but for the first of them they count nowhere.")
    static void promise21TwiceCountsNowhere() {
        KnockTable t = eleven();
        t.enter(0, 0, 100, 5000);
        t.enter(0, 0, 200, 5000);
        t.enter(0, 0, 300, 6000);
        due("only the first", t.position(0, 5), 100);
        due("nor in another MONTH", t.position(0, 6), 0);
        t.enter(1, 0, 501, 7000);
        t.enter(1, 0, 10, 7000);
        due("nor when the first is DISPUTED", t.position(1, 7), 0);
    }

    @Says({"DISPUTED by OPEN as on the DAY of the CRASH; that is held out.", "by ENTRIES that count and aren't DISPUTED,"})
    static void promise21DisputedIsHeldOut() {
        KnockTable t = eleven();
        t.enter(0, 0, 501, 5000);
        t.enter(1, 0, 500, 5000);
        due("nothing of it", t.position(0, 5), 0);
        due("nor on the other side", t.position(1, 5), 500);
        t.rate(5, 1);
        due("no more DISPUTED", t.position(0, 5), 501);
    }

    @Says("(It may be as low as an ERROR.)")
    static void promise21AsLowAsAnError() {
        KnockTable t = eleven();
        treaty(t, "0", OPEN, 0);
        t.enter(0, 0, 999999, 0);
        t.enter(1, 1, 2, 0);
        due("as BEYOND", t.position(1, 0), -1000001);
        due("which isn't one", t.told(1), 0);
    }

    @Says("POSITION.")
    static void promise21TheMostAndTheLeast() {
        KnockTable t = new KnockTable();
        t.car(0, 1, 0, 0);
        t.car(10, 1, 0, 0);
        treaty(t, "0", OPEN, 0);
        for (int i = 0; i < 20; i++) {
            t.crash(1, 0, 0);
            t.enter(i, 0, 999999, 0);
        }
        due("the most", t.position(0, 0), 19999980);
        due("the least", t.position(10, 0), -19999980);
        for (int i = 0; i < 20; i++) {
            t.enter(i, 1, 999999, 0);
        }
        due("all forty", t.position(0, 0), 0);
    }

    @Says({"BEYOND.", "INSURERS 0 .. 10."})
    static void promise21NoSuchInsurer() {
        for (int wrong : new int[] {-1, 11, MIN, MAX}) {
            beyond("insurer " + wrong, t -> t.position(wrong, 3));
        }
        due("the last", Looks.some().position(10, 3), 0);
    }

    @Says({"BEYOND.", "in a MONTH (0 .. 33)"})
    static void promise21NoSuchMonth() {
        for (int wrong : new int[] {-1, 34, MIN, MAX}) {
            beyond("month " + wrong, t -> t.position(0, wrong));
        }
    }

    // ---- 22: held

    @Says("How much is held out of a MONTH (DISPUTED ENTRIES that count).")
    static void promise22HeldOut() {
        KnockTable t = eleven();
        due("none", t.held(5), 0);
        t.enter(0, 0, 501, 5000);
        t.enter(0, 1, 500, 5000);
        t.enter(1, 0, 1000, 5000);
        t.enter(2, 0, 600, 6000);
        t.enter(3, 0, 700, 33999);
        t.enter(4, 0, 800, 0);
        due("501 and 1000", t.held(5), 1501);
        due("of another MONTH", t.held(6), 600);
        due("of the last", t.held(33), 700);
        due("of the first", t.held(0), 800);
        due("of one without", t.held(7), 0);
    }

    @Says({"(DISPUTED ENTRIES that count)", "but for the first of them they count nowhere."})
    static void promise22TwiceIsNotHeld() {
        KnockTable t = eleven();
        t.enter(0, 0, 501, 5000);
        t.enter(0, 0, 900, 5000);
        t.enter(0, 0, 900, 6000);
        t.enter(1, 0, 10, 5000);
        t.enter(1, 0, 900, 5000);
        due("only the first", t.held(5), 501);
        due("nor in another MONTH", t.held(6), 0);
    }

    @Says("How much is held out of a MONTH")
    static void promise22TheMost() {
        KnockTable t = new KnockTable();
        t.car(0, 1, 0, 0);
        t.car(1, 1, 0, 0);
        for (int i = 0; i < 20; i++) {
            t.crash(1, 0, 0);
            t.enter(i, 0, 999999, 0);
            t.enter(i, 1, 999999, 0);
        }
        due("all forty", t.held(0), 39999960);
    }

    @Says({"BEYOND.", "in a MONTH (0 .. 33)"})
    static void promise22NoSuchMonth() {
        for (int wrong : new int[] {-1, 34, MIN, MAX}) {
            beyond("month " + wrong, t -> t.held(wrong));
        }
    }

    // ---- 23: payments

    /** Of POSITIONS of insurers 0 .. in month 7, made by claims along the row of crashes. */
    private static int payments(int... positions) {
        KnockTable t = eleven();
        treaty(t, "0", OPEN, 0);
        int owed = 0;
        for (int i = 0; i + 1 < positions.length; i++) {
            owed += positions[i];
            t.enter(i, owed > 0 ? 0 : 1, Math.abs(owed), 7000);
        }
        for (int i = 0; i < positions.length; i++) {
            due("position " + i, t.position(i, 7), positions[i]);
        }
        due("another month", t.payments(8), 0);
        return t.payments(7);
    }

    @Says({"PAYMENTS of a MONTH: how many.", "after which all POSITIONS are 0."})
    static void promise23NothingToPay() {
        due("no ENTRIES", new KnockTable().payments(0), 0);
        due("all are 0", payments(0, 0, 0), 0);
        due("of eleven all are 0", payments(0, 0, 0, 0, 0, 0, 0, 0, 0, 0, 0), 0);
    }

    @Says("PAYMENTS: the fewest payments from one INSURER to another one")
    static void promise23TheFewest() {
        due("a pair", payments(5, -5), 1);
        due("a pair, with others between", payments(5, 0, 0, -5), 1);
        due("one to two", payments(5, -3, -2), 2);
        due("two to one", payments(-5, 3, 2), 2);
        due("one to two of 1", payments(2, -1, -1), 2);
        due("two of 1 to one", payments(-2, 1, 1), 2);
        due("two pairs", payments(5, 3, -3, -5), 2);
        due("no pairs", payments(5, 3, -4, -4), 3);
        due("two groups of three", payments(5, -3, -2, 7, -6, -1), 4);
        due("one group of five", payments(6, 4, 3, -5, -8), 4);
        due("three groups of three", payments(3, -1, -2, 9, -4, -5, 20, -7, -13), 6);
        due("the first stands by another", payments(1, 5, -2, -5, 1), 3);
        due("a pair and three", payments(2, 3, -5, -2, 2), 3);
        due("three pairs, though four of them come to 0, too", payments(4, -4, 1, 3, -1, -3, 0), 3);
    }

    @Says("PAYMENTS: the fewest payments from one INSURER to another one")
    static void promise23AllEleven() {
        due("five groups", payments(1, -1, 2, -2, 3, -3, 4, -4, 10, -4, -6), 6);
        due("one group", payments(1, 2, 4, 8, 16, 32, 64, 128, 256, 512, -1023), 10);
        due("pairs but for three", payments(100, 200, 300, 400, -100, -200, -300, -400, 7, 8, -15), 6);
    }

    @Says("after which all POSITIONS are 0.")
    static void promise23OfWhatCounts() {
        KnockTable t = eleven();
        t.enter(0, 0, 501, 7000);
        due("DISPUTED alone", t.payments(7), 0);
        t.enter(1, 0, 10, 7000);
        t.enter(1, 0, 10, 7000);
        t.enter(2, 0, 10, 7000);
        due("1 gets 10, 3 owes it", t.payments(7), 1);
        t.enter(5, 0, 10, 8000);
        due("not of another MONTH", t.payments(7), 1);
    }

    @Says({"BEYOND.", "in a MONTH (0 .. 33)"})
    static void promise23NoSuchMonth() {
        for (int wrong : new int[] {-1, 34, MIN, MAX}) {
            beyond("month " + wrong, t -> t.payments(wrong));
        }
        due("the last", Looks.some().payments(33), 1);
    }

    public static void main(String[] args) throws ReflectiveOperationException {
        run(BooksTest.class);
    }
}
