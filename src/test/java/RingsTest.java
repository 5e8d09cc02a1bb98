import java.util.ArrayList;
import java.util.List;

/** Promises 24 to 30, and what the terms say of them: draws, panels, like cases, rings, the core, chains. */
public final class RingsTest extends Answers {

    // ---- 24: draws

    @Says({"w of the DRAWS is so: what it was (an answer may be as low as an ERROR).", "w (any int; 1 at first)"})
    static void promise24WhatItWas() {
        KnockTable t = new KnockTable();
        due("1 at first", t.draws(MIN), 1);
        due("the least int", t.draws(MAX), MIN);
        due("the greatest int", t.draws(0), MAX);
        due("0", t.draws(-1), 0);
        due("-1", t.draws(0), -1);
    }

    @Says("(an answer may be as low as an ERROR)")
    static void promise24AsLowAsAnError() {
        KnockTable t = new KnockTable();
        for (int k = 1; k <= 6; k++) {
            t.draws(-1000000 - k);
            due("LOW - " + k, t.draws(0), -1000000 - k);
            due("which isn't one", t.told(k), 0);
        }
    }

    // ---- 25: panel

    private static KnockTable parties(int first, int second) {
        KnockTable t = new KnockTable();
        t.car(first, 1, 0, 0);
        t.car(second, 1, 0, 0);
        t.crash(1, 0, 0);
        return t;
    }

    /** The draws of promise 25 worked out in whole numbers, without ints that wrap. */
    private static int draw(long[] w, int n) {
        w[0] = Math.floorMod(w[0] * 1103515245L + 12345L, 1L << 32);
        return (int) (w[0] / 65536 % n);
    }

    private static int drawn(long[] w, int first, int second) {
        List<Integer> may = new ArrayList<>();
        for (int i = 0; i <= 10; i++) {
            if (i != first && i != second) {
                may.add(i);
            }
        }
        int panel = 0;
        for (int n = 9; n >= 7; n--) {
            panel |= 1 << may.remove(draw(w, n));
        }
        return panel;
    }

    @Says({"A PANEL for a CRASH is drawn: as bits of INSURERS.", "A PANEL for a CRASH: three INSURERS, by DRAWS,",
        "of those that may still be (by numbers) that at the place of a draw below how many they are."})
    static void promise25ThreeDrawn() {
        KnockTable t = parties(10, 4);
        for (int seed : new int[] {1, 0, -1, MIN, MAX, 12345, -987654321, 65535, 65536}) {
            t.draws(seed);
            long[] w = {seed & 0xFFFFFFFFL};
            for (int again = 0; again < 3; again++) {
                due("panel of " + seed, t.panel(0), drawn(w, 10, 4));
            }
            due("nine draws of " + seed, t.draws(0), (int) w[0]);
        }
    }

    @Says({"DRAWS: w (any int; 1 at first) becomes w times 1103515245 and 12345 (ints that wrap);",
        "a draw below n is (w without its lowest 16 bits, as a number of 16 bits without sign) modulo n."})
    static void promise25DrawsWorkedOutByHand() {
        // 1103527590, of which 16838 modulo 9 is 8: the last of 2 .. 10;
        // -1770082073, of which 38526 modulo 8 is 6: 8 of 2 .. 9; 662824084, of which 10113 modulo 7 is 5: 7
        KnockTable t = parties(0, 1);
        due("10, 8 and 7", t.panel(0), 1 << 10 | 1 << 8 | 1 << 7);
        due("w then", t.draws(0), 662824084);
    }

    @Says("none of whom is one of its two, none twice:")
    static void promise25NeitherOfItsTwoNorTwice() {
        int[][] pairs = {{0, 10}, {10, 0}, {0, 1}, {9, 10}, {5, 6}};
        for (int[] pair : pairs) {
            KnockTable t = parties(pair[0], pair[1]);
            long[] w = {1};
            for (int i = 0; i < 60; i++) {
                int panel = t.panel(0);
                due("three", Integer.bitCount(panel), 3);
                due("none of its two", panel & (1 << pair[0] | 1 << pair[1]), 0);
                due("no other INSURERS", panel >> 11, 0);
                due("as drawn", panel, drawn(w, pair[0], pair[1]));
            }
        }
    }

    @Says("BEYOND.")
    static void promise25NoSuchCrash() {
        for (int wrong : new int[] {-1, 3, 20, MIN, MAX}) {
            beyond("crash " + wrong, t -> t.panel(wrong));
        }
        KnockTable t = parties(0, 1);
        t.panel(1);
        due("nothing was drawn", t.draws(0), 1);
    }

    // ---- 26: like

    @Says({"by how UNLIKE it they are,", "0 which, 1 how UNLIKE.",
        "UNLIKE of two CRASHES: 10 for each ZONE in which FRESH dents differ (SIDE by SIDE), and how much their SPEEDS differ."})
    static void promise26ByHowUnlike() {
        KnockTable t = new KnockTable();
        t.car(0, 1, 0, 4);
        t.car(1, 1, 0, 0);
        t.crash(1, 50, 0b011 * 256 + 0b001);     // 0: two zones and 5 unlike the last: 25
        t.crash(1, 45, 0b101 * 256 + 0b001);     // 1: old dents don't differ: one zone: 10
        t.crash(1, 55, 0b001 * 256 + 0b011);     // 2: alike but for the speed: 10
        t.crash(1, 25, 0b001 * 256 + 0b011);     // 3: 20
        t.crash(1, 99945, 0b001 * 256 + 0b011);  // 4
        int[][] due = {{1, 10}, {2, 10}, {3, 20}, {0, 25}};
        for (int i = 0; i < 4; i++) {
            due("which is at " + i, t.like(4, i, 0), due[i][0]);
            due("how UNLIKE at " + i, t.like(4, i, 1), due[i][1]);
        }
    }

    private static int unlike(int when, int dents, int when2, int dents2) {
        KnockTable t = new KnockTable();
        t.car(0, 1, 0, 0);
        t.car(1, 1, 0, 0);
        t.crash(1, when, dents);
        t.crash(1, when2, dents2);
        return t.like(1, 0, 1);
    }

    @Says({"10 for each ZONE in which FRESH dents differ (SIDE by SIDE),", "and how much their SPEEDS differ."})
    static void promise26HowUnlike() {
        due("alike", unlike(50, 257, 99950, 257), 0);
        due("the most", unlike(0, 0, 99, 65535), 259);
        due("SPEEDS the other way round", unlike(99, 65535, 0, 0), 259);
        due("one ZONE of the first", unlike(0, 256, 0, 0), 10);
        due("one ZONE of the second", unlike(0, 0, 0, 128), 10);
        due("one ZONE on both SIDES", unlike(0, 257, 0, 0), 20);
        due("SIDES changed", unlike(0, 256, 0, 1), 20);
        due("SPEED alone", unlike(7, 0, 8, 0), 1);
    }

    @Says({"The i-th (from 0 on) of the CRASHES ahead of one (of lesser numbers),", "of like ones by numbers:"})
    static void promise26OnlyThoseAheadByNumbers() {
        KnockTable t = new KnockTable();
        t.car(0, 1, 0, 0);
        t.car(1, 1, 0, 0);
        for (int i = 0; i < 20; i++) {
            t.crash(i % 2 == 0 ? 1 : 100, 30, 257);
        }
        for (int i = 0; i < 19; i++) {
            due("of like ones", t.like(19, i, 0), i);
            due("0", t.like(19, i, 1), 0);
        }
        due("the only one ahead", t.like(1, 0, 0), 0);
    }

    @Says("by how UNLIKE it they are,")
    static void promise26ALittleLikerIsAhead() {
        KnockTable t = new KnockTable();
        t.car(0, 1, 0, 0);
        t.car(1, 1, 0, 0);
        for (int i = 0; i < 19; i++) {
            t.crash(1, 19 - i, 0);
        }
        t.crash(1, 0, 0);
        for (int i = 0; i < 19; i++) {
            due("which is at " + i, t.like(19, i, 0), 18 - i);
            due("how UNLIKE at " + i, t.like(19, i, 1), 1 + i);
        }
    }

    @Says("NONE.")
    static void promise26NoneSoFar() {
        refused("none ahead of the first", NONE, Looks::some, t -> t.like(0, 0, 0));
        refused("two ahead of crash 2", NONE, Looks::some, t -> t.like(2, 2, 1));
        refused("far", NONE, Looks::some, t -> t.like(2, MAX, 0));
        due("the last of two", Looks.some().like(2, 1, 0), 0);
    }

    @Says("BEYOND: CRASH, i below 0, what.")
    static void promise26NoSuchCrash() {
        for (int wrong : new int[] {-1, 3, 20, MIN, MAX}) {
            beyond("crash " + wrong, t -> t.like(wrong, 0, 0));
        }
    }

    @Says("BEYOND: CRASH, i below 0, what.")
    static void promise26Below0() {
        for (int wrong : new int[] {-1, MIN}) {
            beyond("i " + wrong, t -> t.like(2, wrong, 0));
        }
    }

    @Says({"BEYOND: CRASH, i below 0, what. NONE.", "Each act tells its ERRORS in the order in which they are asked;"})
    static void promise26NoSuchWhat() {
        for (int wrong : new int[] {-1, 2, MIN, MAX}) {
            beyond("what " + wrong, t -> t.like(2, 0, wrong));
            beyond("what " + wrong + " ahead of NONE", t -> t.like(0, 0, wrong));
        }
        beyond("i ahead of NONE", t -> t.like(0, -1, 0));
    }

    // ---- 27: ring

    /** Sixteen cars of two insurers by turns, two in each of eight crashes. */
    private static KnockTable eight() {
        KnockTable t = new KnockTable();
        for (int i = 0; i < 16; i++) {
            t.car(i % 2, 1, 0, 0);
        }
        for (int i = 0; i < 8; i++) {
            t.crash(200 * i + 2 * i + 1, 0, 0);
        }
        return t;
    }

    private static void marks(KnockTable t, int car, int a, int b, int c) {
        t.mark(car, 0, a);
        t.mark(car, 1, b);
        t.mark(car, 2, c);
    }

    /** Whether two crashes are tied whose cars 0 and 2 (both first) have these marks. */
    private static boolean tied(int[] one, int[] other) {
        KnockTable t = eight();
        marks(t, 0, one[0], one[1], one[2]);
        marks(t, 2, other[0], other[1], other[2]);
        return t.ring(0) == 3;
    }

    @Says({"A RING of a CRASH, as bits.", "A RING of a CRASH: all to which TIES lead from it (it, too)."})
    static void promise27Alone() {
        KnockTable t = eight();
        for (int i = 0; i < 8; i++) {
            due("itself", t.ring(i), 1 << i);
        }
    }

    @Says("CRASHES are TIED, if one CAR is in both,")
    static void promise27OneCarInBoth() {
        // cars 0 and 1 met in crash 0; 16 and 17 in none
        for (int cars : new int[] {17, 1700, 1601, 116}) {
            KnockTable t = eight();
            t.car(0, 1, 0, 0);
            t.car(1, 1, 0, 0);
            due("cars " + cars, t.ring(t.crash(cars, 0, 0)), 1 | 1 << 8);
        }
    }

    @Says("or a CAR of one has two MARKS or more as a CAR of the other")
    static void promise27TwoMarksOrMore() {
        holds("three", tied(new int[] {1, 2, 3}, new int[] {1, 2, 3}));
        holds("the first two", tied(new int[] {1, 2, 3}, new int[] {1, 2, 4}));
        holds("the last two", tied(new int[] {1, 2, 3}, new int[] {9, 2, 3}));
        holds("the outer two", tied(new int[] {1, 2, 3}, new int[] {1, 9, 3}));
        holds("not one", !tied(new int[] {1, 2, 3}, new int[] {1, 8, 9}));
        holds("nor another one", !tied(new int[] {1, 2, 3}, new int[] {7, 8, 3}));
        holds("nor none", !tied(new int[] {1, 2, 3}, new int[] {7, 8, 9}));
    }

    @Says("or a CAR of one has two MARKS or more as a CAR of the other")
    static void promise27MarksOfEitherSide() {
        for (int mine = 0; mine < 2; mine++) {
            for (int others = 2; others < 4; others++) {
                KnockTable t = eight();
                marks(t, mine, 1, 2, 3);
                marks(t, others, 1, 2, 3);
                due("cars " + mine + " and " + others, t.ring(0), 3);
            }
        }
        KnockTable t = eight();
        marks(t, 0, 1, 2, -1);
        marks(t, 2, 1, -1, -1);
        marks(t, 3, -1, 2, -1);
        due("not one each of two cars", t.ring(0), 1);
    }

    @Says("(the first as the first, and so on; -1 is alike to nothing).")
    static void promise27MarksEachAsItsOwn() {
        holds("changed places", !tied(new int[] {1, 2, -1}, new int[] {2, 1, -1}));
        holds("one place further", !tied(new int[] {1, 2, -1}, new int[] {-1, 1, 2}));
        holds("none is alike to nothing", !tied(new int[] {1, -1, -1}, new int[] {1, -1, -1}));
        holds("none at all", !tied(new int[] {-1, -1, -1}, new int[] {-1, -1, -1}));
        holds("0 is a MARK", tied(new int[] {0, -1, 0}, new int[] {0, 1, 0}));
        holds("99 is a MARK", tied(new int[] {-1, 99, 99}, new int[] {1, 99, 99}));
    }

    @Says("all to which TIES lead from it (it, too).")
    static void promise27ThroughOthers() {
        KnockTable t = eight();
        marks(t, 0, 5, 6, -1);
        marks(t, 3, 5, 6, 7);
        marks(t, 5, 9, 6, 7);
        due("from one end", t.ring(0), 0b111);
        due("from between", t.ring(1), 0b111);
        due("from the other end", t.ring(2), 0b111);
        due("others aren't in it", t.ring(3), 0b1000);
    }

    @Says("all to which TIES lead from it (it, too).")
    static void promise27TiesEndWithTheMarks() {
        KnockTable t = eight();
        marks(t, 0, 5, 6, -1);
        marks(t, 3, 5, 6, -1);
        due("TIED", t.ring(0), 0b11);
        t.mark(3, 0, 7);
        due("no more", t.ring(0), 1);
        due("nor for rings()", t.rings(2), 0);
        due("nor for core()", t.core(), 1);
    }

    /** Twenty crashes in a row of twenty-one cars, told so that ties lead up and down. */
    private static KnockTable twenty() {
        KnockTable t = new KnockTable();
        for (int i = 0; i < 21; i++) {
            t.car(i % 2, 1, 0, 0);
        }
        for (int i = 0; i < 20; i++) {
            int at = i % 2 == 0 ? i / 2 : 19 - i / 2;
            t.crash(100 * at + at + 1, 0, 0);
        }
        return t;
    }

    @Says("all to which TIES lead from it (it, too).")
    static void promise27AllTwenty() {
        for (int i = 0; i < 20; i++) {
            due("from " + i, twenty().ring(i), (1 << 20) - 1);
        }
    }

    @Says("BEYOND.")
    static void promise27NoSuchCrash() {
        for (int wrong : new int[] {-1, 3, 20, MIN, MAX}) {
            beyond("crash " + wrong, t -> t.ring(wrong));
        }
        refused("of twenty", BEYOND, RingsTest::twenty, t -> t.ring(20));
    }

    // ---- 28: rings

    @Says("How many RINGS of k (1 .. 20) CRASHES or more there are.")
    static void promise28HowManyOfSoMany() {
        KnockTable t = eight();
        due("all alone", t.rings(1), 8);
        due("none of two", t.rings(2), 0);
        marks(t, 0, 1, 1, 1);
        marks(t, 2, 1, 1, 1);
        marks(t, 4, 1, 1, 2);
        marks(t, 9, 3, 3, 3);
        marks(t, 14, 3, 3, 3);
        int[] due = {5, 2, 1, 0};
        for (int k = 1; k <= 4; k++) {
            due("of " + k, t.rings(k), due[k - 1]);
        }
        marks(t, 1, 3, 3, 3);
        due("two joined", t.rings(5), 1);
        due("none greater", t.rings(6), 0);
        due("in all", t.rings(1), 4);
    }

    @Says("How many RINGS of k (1 .. 20) CRASHES or more there are.")
    static void promise28Twenty() {
        due("one of twenty", twenty().rings(20), 1);
        due("and no other", twenty().rings(1), 1);
        due("without CRASHES", new KnockTable().rings(1), 0);
        due("none of twenty", eight().rings(20), 0);
    }

    @Says({"k (1 .. 20)", "BEYOND."})
    static void promise28NoSuchK() {
        for (int wrong : new int[] {0, -1, 21, MIN, MAX}) {
            beyond("k " + wrong, t -> t.rings(wrong));
        }
    }

    // ---- 29: core

    @Says({"THE CORE, as bits.", "THE CORE: the most CRASHES of which each two are TIED;"})
    static void promise29TheMostEachTwoTied() {
        KnockTable t = eight();
        marks(t, 12, 3, 3, 3);
        marks(t, 14, 3, 3, 3);
        due("two", t.core(), 0b11000000);
        marks(t, 15, 5, 5, 5);
        marks(t, 13, 5, 5, 5);
        marks(t, 11, 5, 5, 5);
        due("three", t.core(), 0b11100000);
        marks(t, 1, 6, 6, 6);
        marks(t, 3, 6, 6, 6);
        marks(t, 5, 6, 6, 6);
        marks(t, 9, 6, 6, 6);
        due("four", t.core(), 0b00010111);
    }

    @Says("of which each two are TIED;")
    static void promise29ARingIsNotACore() {
        due("a row of twenty: two at most", twenty().core(), 0b101);
    }

    @Says("of several the least bits.")
    static void promise29OfSeveralTheLeastBits() {
        KnockTable t = eight();
        due("the first of all alone", t.core(), 1);
        marks(t, 0, 1, 1, 1);
        marks(t, 6, 1, 1, 1);
        due("0 and 3", t.core(), 0b1001);
        marks(t, 2, 2, 2, 2);
        marks(t, 4, 2, 2, 2);
        due("1 and 2 are less, though 0 is ahead", t.core(), 0b0110);
        marks(t, 1, 4, 4, 4);
        marks(t, 5, 4, 4, 4);
        due("0 and 2 are less again", t.core(), 0b0101);
    }

    @Says("THE CORE: the most CRASHES of which each two are TIED;")
    static void promise29NoneAndAll() {
        due("no CRASHES", new KnockTable().core(), 0);
        KnockTable t = new KnockTable();
        t.car(0, 1, 0, 0);
        t.car(1, 1, 0, 0);
        t.crash(1, 0, 0);
        due("one", t.core(), 1);
        for (int i = 1; i < 20; i++) {
            t.crash(1, 0, 0);
        }
        due("all twenty", t.core(), (1 << 20) - 1);
        KnockTable empty = new KnockTable();
        empty.image();
        empty.car(0, 1, 0, 0);
        empty.car(1, 1, 0, 0);
        empty.crash(1, 0, 0);
        due("one", empty.core(), 1);
        empty.restore();
        due("none again", empty.core(), 0);
    }

    /** Six cars, each two of which met: where each two crashes are tied, all share one car, or they are three. */
    @Says("THE CORE: the most CRASHES of which each two are TIED;")
    static void promise29ManyCores() {
        KnockTable t = new KnockTable();
        for (int i = 0; i < 6; i++) {
            t.car(i, 1, 0, 0);
        }
        int of5 = 0;
        int n = 0;
        for (int a = 0; a < 6; a++) {
            for (int b = a + 1; b < 6; b++) {
                t.crash(100 * a + b, 0, 0);
                of5 |= a == 0 ? 1 << n : 0;
                n++;
            }
        }
        due("the five of car 0", t.core(), of5);
    }

    // ---- 30: chain

    private static KnockTable row(int bits, int... v) {
        KnockTable t = new KnockTable();
        Looks.row(t, 0, bits, v);
        return t;
    }

    private static void order(KnockTable t, int off, int orders, int... cars) {
        due("how many", t.chain(0, off, 0), orders);
        for (int k = 0; k < cars.length; k++) {
            due("at " + k, t.chain(0, off, 1 + k), cars[k]);
        }
        due("no more", t.chain(0, off, 1 + cars.length), NONE);
    }

    @Says({"0 in how many orders it could be,", "1 + k the car at place k (from 0 on; the first one drives into the second, and so on)",
        "A CHAIN: up to 6 cars, each with heights of its front and back dent,"})
    static void promise30FirstDrivesIntoSecond() {
        order(row(8, 3, 9, 5, 8, 8, 3), 0, 1, 0, 2, 1);
        order(row(8, 50, 40, 40, 60, 30, 50), 0, 1, 1, 0, 2);
        order(row(8, 9, 3, 8, 5, 3, 8), 0, 1, 1, 2, 0);
    }

    @Says("in that order which is first by the numbers of the cars.")
    static void promise30FirstByTheNumbers() {
        // 0 drives into 1, 1 into 2, 2 into 0
        order(row(8, 1, 9, 2, 1, 9, 2), 0, 3, 0, 1, 2);
        // 0 into 2, 2 into 1, 1 into 0
        order(row(8, 1, 2, 2, 3, 3, 1), 0, 3, 0, 2, 1);
        order(row(8, 0, 0, 0, 0, 0, 0, 0, 0, 0, 0, 0, 0), 0, 720, 0, 1, 2, 3, 4, 5);
        // 0 may stand ahead of 1 or 2, but nothing stands behind 1
        order(row(8, 5, 99, 70, 5, 5, 5), 0, 1, 0, 2, 1);
        // 1 could go on to 2, but 0 doesn't drive into 1
        order(row(8, 1, 99, 1, 2, 2, 1), 0, 1, 0, 2, 1);
    }

    @Says("in an order in which each front is no more than so much off the back of the next one.")
    static void promise30NoMoreThanSoMuchOff() {
        order(row(16, 300, 0, 500, 303), 3, 1, 0, 1);
        order(row(16, 303, 0, 500, 300), 3, 1, 0, 1);
        due("a little too far", row(16, 300, 0, 500, 303).chain(0, 2, 0), 0);
        due("a little too far the other way", row(16, 303, 0, 500, 300).chain(0, 2, 0), 0);
        due("as far as may be", row(16, 1000, 0, 5000, 1).chain(0, 999, 0), 1);
        due("too far", row(16, 1001, 0, 5000, 1).chain(0, 999, 0), 0);
        due("just alike", row(16, 7, 0, 5000, 7).chain(0, 0, 0), 1);
    }

    @Says("each front is no more than so much off the back of the next one.")
    static void promise30HeightsFarApart() {
        due("not alike by a wrap", row(32, MIN, MIN, MAX, MAX).chain(0, 999, 0), 0);
        due("nor so", row(32, MAX, MAX, MIN, MIN).chain(0, 999, 0), 0);
        due("nor by the least int", row(32, 0, 0, MIN, MIN).chain(0, 999, 0), 0);
        due("the same far heights", row(32, MIN, MAX, MAX, MIN).chain(0, 0, 0), 2);
        due("with a sign", row(8, -128, 5, 127, -128).chain(0, 0, 0), 1);
    }

    @Says({"A CHAIN of the cars on a SHEET (front and back of each, one behind the other) with off (0 .. 999):",
        "KIND: it hasn't 2, 4, .. 12 numbers."})
    static void promise30HowManyNumbers() {
        int[] orders = {0, 1, 2, 6, 24, 120, 720};
        for (int n = 0; n <= 24; n++) {
            int numbers = n;
            if (n % 2 == 0 && n >= 2 && n <= 12) {
                due(n + " numbers", row(8, new int[n]).chain(0, 0, 0), orders[n / 2]);
            } else {
                refused(n + " numbers", KIND, () -> row(8, new int[numbers]), t -> t.chain(0, 0, 0));
            }
        }
    }

    @Says("A CHAIN: up to 6 cars,")
    static void promise30OneCar() {
        order(row(8, 10, 99), 0, 1, 0);
    }

    @Says("NONE: the SHEET is missing.")
    static void promise30Missing() {
        refused("missing", NONE, Looks::some, t -> t.chain(3, 0, 0));
        refused("missing, a place", NONE, Looks::some, t -> t.chain(3, 0, 1));
    }

    @Says("NONE: there is no such order (but for what 0), or place.")
    static void promise30NoSuchOrder() {
        due("none", row(8, 1, 2, 3, 4).chain(0, 0, 0), 0);
        refused("the first of none", NONE, Looks::some, t -> t.chain(1, 0, 1));
        refused("the last of none", NONE, Looks::some, t -> t.chain(1, 0, 2));
        // 0 into 2, 2 into 0, 1 apart
        due("one is apart", row(8, 7, 1, 0, 9, 1, 7).chain(0, 0, 0), 0);
        due("one is apart", row(8, 7, 1, 0, 9, 1, 7).chain(0, 0, 1), NONE);
        // each drives into itself alone
        due("into itself", row(8, 1, 1, 2, 2).chain(0, 0, 0), 0);
    }

    @Says("NONE: there is no such order (but for what 0), or place.")
    static void promise30NoSuchPlace() {
        refused("behind the last", NONE, Looks::some, t -> t.chain(0, 0, 4));
        refused("far behind", NONE, Looks::some, t -> t.chain(0, 0, MAX));
        due("the last", Looks.some().chain(0, 0, 3), 2);
        due("a seventh of six", row(8, new int[12]).chain(0, 0, 7), NONE);
    }

    @Says("BEYOND: SHEET, off, what below 0.")
    static void promise30NoSuchSheet() {
        for (int wrong : new int[] {-1, 4, MIN, MAX}) {
            beyond("sheet " + wrong, t -> t.chain(wrong, 0, 0));
        }
        KnockTable t = new KnockTable();
        for (int sheet = 0; sheet < 4; sheet++) {
            t.sheet(sheet, 8, 2 + 2 * sheet);
        }
        int[] orders = {1, 2, 6, 24};
        for (int sheet = 0; sheet < 4; sheet++) {
            due("sheet " + sheet, t.chain(sheet, 0, 0), orders[sheet]);
        }
    }

    @Says({"BEYOND: SHEET, off, what below 0.", "with off (0 .. 999):"})
    static void promise30Off() {
        for (int wrong : new int[] {-1, 1000, MIN, MAX}) {
            beyond("off " + wrong, t -> t.chain(0, wrong, 0));
        }
    }

    @Says("BEYOND: SHEET, off, what below 0.")
    static void promise30WhatBelow0() {
        for (int wrong : new int[] {-1, MIN}) {
            beyond("what " + wrong, t -> t.chain(0, 0, wrong));
        }
    }

    private static KnockTable three() {
        KnockTable t = new KnockTable();
        t.sheet(0, 8, 3);
        return t;
    }

    @Says({"BEYOND: SHEET, off, what below 0. NONE: the SHEET is missing. KIND: it hasn't 2, 4, .. 12 numbers.",
        "Each act tells its ERRORS in the order in which they are asked;"})
    static void promise30BeyondThenNoneThenKindThenNone() {
        refused("off ahead of missing", BEYOND, Looks::some, t -> t.chain(3, 1000, 0));
        refused("what ahead of missing", BEYOND, Looks::some, t -> t.chain(3, 0, -1));
        refused("off ahead of KIND", BEYOND, RingsTest::three, t -> t.chain(0, -1, 0));
        refused("what ahead of KIND", BEYOND, RingsTest::three, t -> t.chain(0, 0, -1));
        refused("KIND ahead of no place", KIND, RingsTest::three, t -> t.chain(0, 0, 99));
    }

    public static void main(String[] args) throws ReflectiveOperationException {
        run(RingsTest.class);
    }
}
