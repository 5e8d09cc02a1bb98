/** Promises 1 to 8, and what the terms say of them: a new object, cars, shapes, crashes. */
public final class CarsTest extends Answers {

    private static KnockTable cars(int n) {
        KnockTable t = new KnockTable();
        for (int i = 0; i < n; i++) {
            t.car(i % 11, 100, 0, 0);
        }
        return t;
    }

    /** Two cars with these old dents, and one crash of theirs with these dents. */
    private static KnockTable crashed(int old0, int old1, int dents) {
        KnockTable t = new KnockTable();
        t.car(0, 100, 0, old0);
        t.car(1, 100, 0, old1);
        t.crash(1, 1077, dents);
        return t;
    }

    // ---- 1: a new object

    @Says("No CARS, SHAPES.")
    static void promise1NothingIsThere() {
        KnockTable t = new KnockTable();
        for (int what = 0; what <= 8; what++) {
            due("count " + what, t.count(what), 0);
        }
        due("told of none", t.told(1), 0);
        due("no CAR", t.carIs(0, 0), BEYOND);
        due("no CRASH", t.crashIs(0, 0), BEYOND);
        due("no ENTRY", t.entryIs(0, 0), BEYOND);
        due("no TREATY", t.says(0, 0, 0, 0, 0), BEYOND);
        due("no TREATY in force", t.force(0, 999), NONE);
        due("no TRACE", t.trace(0), NONE);
        due("no IMAGE", t.restore(), NONE);
    }

    @Says("No CARS, SHAPES.")
    static void promise1NothingFollowsFromNothing() {
        KnockTable t = new KnockTable();
        due("core", t.core(), 0);
        due("rings", t.rings(1), 0);
        due("position", t.position(0, 0), 0);
        due("held", t.held(0), 0);
        due("payments", t.payments(0), 0);
        due("check", t.check(0), 0);
    }

    @Says("or missing (as at first)")
    static void promise1AllSheetsAreMissing() {
        KnockTable t = new KnockTable();
        for (int sheet = 0; sheet < 4; sheet++) {
            due("sheet " + sheet, t.put(sheet, 0, 0), NONE);
        }
    }

    @Says("No CARS, SHAPES.")
    static void promise1ObjectsAreApart() {
        KnockTable t = Looks.some();
        KnockTable other = new KnockTable();
        for (int what = 0; what <= 8; what++) {
            due("count " + what, other.count(what), 0);
        }
        due("no IMAGE of the other's", other.restore(), NONE);
        other.rate(0, 99);
        other.zone(0, 0, 1);
        other.draws(5);
        due("RATE", t.rate(0, 0), 11);
        due("PRICE", t.zone(0, 0, 0), 400);
        due("w", t.draws(0), -1000001);
    }

    // ---- 2: car

    @Says({"A CAR: its number.", "CARS 0, 1, .. (at most 30)"})
    static void promise2NumbersFrom0On() {
        KnockTable t = new KnockTable();
        for (int i = 0; i < 30; i++) {
            due("number", t.car(i % 11, 100, 0, 0), i);
        }
        due("all thirty", t.count(0), 30);
    }

    @Says({"INSURERS 0 .. 10.", "BEYOND. FULL."})
    static void promise2Insurer() {
        KnockTable t = new KnockTable();
        due("least", t.carIs(t.car(0, 1, 0, 0), 0), 0);
        due("most", t.carIs(t.car(10, 1, 0, 0), 0), 10);
        for (int wrong : new int[] {-1, 11, MIN, MAX}) {
            beyond("insurer " + wrong, x -> x.car(wrong, 1, 0, 0));
        }
    }

    @Says({"of an INSURER, NEW for a price (1 .. 99999),", "BEYOND. FULL."})
    static void promise2Price() {
        KnockTable t = new KnockTable();
        due("least", t.carIs(t.car(0, 1, 0, 0), 1), 1);
        due("most", t.carIs(t.car(0, 99999, 0, 0), 1), 99999);
        for (int wrong : new int[] {0, -1, 100000, MIN, MAX}) {
            beyond("price " + wrong, x -> x.car(0, wrong, 0, 0));
        }
    }

    @Says({"age: 1000 times AGE, and EXCESS.", "of an AGE (0 .. 20 years), with an EXCESS (0 .. 999),", "BEYOND. FULL."})
    static void promise2AgeAndExcess() {
        KnockTable t = new KnockTable();
        int[][] good = {{0, 0, 0}, {999, 0, 999}, {1000, 1, 0}, {20000, 20, 0}, {20999, 20, 999}, {7123, 7, 123}};
        for (int[] g : good) {
            int car = t.car(0, 1, g[0], 0);
            due("AGE of " + g[0], t.carIs(car, 2), g[1]);
            due("EXCESS of " + g[0], t.carIs(car, 3), g[2]);
        }
        for (int wrong : new int[] {-1, -1000, 21000, MIN, MAX}) {
            beyond("age " + wrong, x -> x.car(0, 1, wrong, 0));
        }
    }

    @Says({"OLD dents (ZONES),", "ZONES 0 .. 7 of a car (sets of them are bits).", "BEYOND. FULL."})
    static void promise2OldDents() {
        KnockTable t = new KnockTable();
        due("none", t.carIs(t.car(0, 1, 0, 0), 4), 0);
        due("the last", t.carIs(t.car(0, 1, 0, 128), 4), 128);
        due("all", t.carIs(t.car(0, 1, 0, 255), 4), 255);
        for (int wrong : new int[] {-1, 256, MIN, MAX}) {
            beyond("old " + wrong, x -> x.car(0, 1, 0, wrong));
        }
    }

    @Says({"and three MARKS (-1 .. 99; -1: none; none at first).", "CARS 0, 1, .. (at most 30)"})
    static void promise2NoMarksAtFirst() {
        KnockTable t = cars(30);
        for (int what = 6; what <= 8; what++) {
            due("first car", t.carIs(0, what), -1);
            due("last car", t.carIs(29, what), -1);
        }
    }

    @Says({"BEYOND. FULL.", "(at most 30)"})
    static void promise2Full() {
        refused("a 31st", FULL, () -> cars(30), t -> t.car(0, 1, 0, 0));
        due("a 30th", cars(29).car(0, 1, 0, 0), 29);
    }

    @Says({"BEYOND. FULL.", "Each act tells its ERRORS in the order in which they are asked;"})
    static void promise2BeyondIsAskedAheadOfFull() {
        refused("insurer", BEYOND, () -> cars(30), t -> t.car(11, 1, 0, 0));
        refused("price", BEYOND, () -> cars(30), t -> t.car(0, 0, 0, 0));
        refused("age", BEYOND, () -> cars(30), t -> t.car(0, 1, 21000, 0));
        refused("old", BEYOND, () -> cars(30), t -> t.car(0, 1, 0, 256));
    }

    // ---- 3: carIs

    @Says({"Of a CAR: 0 INSURER, 1 NEW, 2 AGE, 3 EXCESS, 4 OLD dents, 5 BOOK, 6 to 8 its MARKS.",
        "NEW, less FALL hundredths of it for each year"})
    static void promise3WhatACarIs() {
        KnockTable t = new KnockTable();
        t.car(1, 1, 0, 0);
        t.car(10, 99998, 1997, 254);
        t.mark(1, 0, 31);
        t.mark(1, 1, 32);
        t.mark(1, 2, 33);
        int[] is = {10, 99998, 1, 997, 254, 84998, 31, 32, 33};
        int[] other = {1, 1, 0, 0, 0, 1, -1, -1, -1};
        for (int what = 0; what <= 8; what++) {
            due("what " + what, t.carIs(1, what), is[what]);
            due("the other's " + what, t.carIs(0, what), other[what]);
        }
    }

    @Says("BEYOND.")
    static void promise3NoSuchCar() {
        for (int wrong : new int[] {-1, 5, 30, MIN, MAX}) {
            beyond("car " + wrong, t -> t.carIs(wrong, 0));
        }
        due("the last", Looks.some().carIs(4, 0), 3);
    }

    @Says("BEYOND.")
    static void promise3NoSuchWhat() {
        for (int wrong : new int[] {-1, 9, MIN, MAX}) {
            beyond("what " + wrong, t -> t.carIs(0, wrong));
        }
    }

    private static int book(int price, int years, int fall) {
        KnockTable t = new KnockTable();
        t.rate(1, fall);
        return t.carIs(t.car(0, price, 1000 * years, 0), 5);
    }

    @Says("BOOK of a CAR: NEW, less FALL hundredths of it for each year, one by one (what is left cut each time).")
    static void promise3BookIsCutEachYear() {
        due("850, 722.5", book(1000, 2, 15), 722);
        due("722 less 15 is 613.7", book(1000, 3, 15), 613);
        due("what is left of 1 is cut, not what goes", book(1, 1, 1), 0);
        due("3 less a half", book(3, 1, 50), 1);
    }

    @Says("NEW, less FALL hundredths of it for each year")
    static void promise3BookAtItsEdges() {
        due("a new car", book(99999, 0, 50), 99999);
        due("no FALL", book(99999, 20, 0), 99999);
        due("down to 0", book(99999, 20, 50), 0);
        due("the years that lead to 1", book(99999, 16, 50), 1);
        due("one year more", book(99999, 17, 50), 0);
        KnockTable t = new KnockTable();
        t.car(0, 1000, 1000, 0);
        t.rate(1, 10);
        due("by FALL as it is now", t.carIs(0, 5), 900);
    }

    // ---- 4: mark

    @Says("MARK which (0 .. 2) of a CAR becomes v: what it was.")
    static void promise4WhatItWas() {
        KnockTable t = cars(2);
        for (int which = 0; which < 3; which++) {
            due("none at first", t.mark(1, which, 10 + which), -1);
        }
        for (int which = 0; which < 3; which++) {
            due("as told", t.mark(1, which, 0), 10 + which);
            due("of the other car", t.carIs(0, 6 + which), -1);
        }
    }

    @Says({"three MARKS (-1 .. 99; -1: none; none at first)", "BEYOND."})
    static void promise4Value() {
        KnockTable t = cars(1);
        due("most", t.mark(0, 0, 99), -1);
        due("least", t.mark(0, 0, 0), 99);
        due("none", t.mark(0, 0, -1), 0);
        due("none it is", t.carIs(0, 6), -1);
        for (int wrong : new int[] {-2, 100, MIN, MAX}) {
            beyond("v " + wrong, x -> x.mark(0, 0, wrong));
        }
    }

    @Says({"MARK which (0 .. 2)", "BEYOND."})
    static void promise4Which() {
        for (int wrong : new int[] {-1, 3, MIN, MAX}) {
            beyond("which " + wrong, t -> t.mark(0, wrong, 1));
        }
    }

    @Says("BEYOND.")
    static void promise4NoSuchCar() {
        for (int wrong : new int[] {-1, 5, MIN, MAX}) {
            beyond("car " + wrong, t -> t.mark(wrong, 0, 1));
        }
        due("the last", Looks.some().mark(4, 0, 1), -1);
    }

    // ---- 5: shape

    private static KnockTable shapes(int n) {
        KnockTable t = Looks.some();
        while (t.count(1) < n) {
            t.shape(0, 65535, 10);
        }
        return t;
    }

    @Says({"A SHAPE: its number.", "SHAPES 0, 1, .. (at most 16)"})
    static void promise5NumbersFrom0On() {
        KnockTable t = new KnockTable();
        for (int i = 0; i < 16; i++) {
            due("number", t.shape(i, 0, i), i);
        }
        due("all sixteen", t.count(1), 16);
    }

    @Says({"needs, may: 256 times ZONES of the first car, and those of the second.",
        "ZONES of both cars that it NEEDS, others that it MAY leave besides,"})
    static void promise5ZonesOfTheFirstAndTheSecond() {
        KnockTable t = crashed(0, 0, 256 * 3 + 128);
        t.shape(256 * 1 + 128, 256 * 2, 10);
        t.shape(256 * 128 + 3, 0, 10);
        t.shape(256 * 1, 256 * 2 + 128, 10);
        t.shape(256 * 1, 256 * 128 + 2, 10);
        due("those that FIT", t.crashIs(0, 6), 0b0101);
    }

    @Says("BEYOND: needs, may (0 .. 65535), FAULT.")
    static void promise5Needs() {
        due("most", new KnockTable().shape(65535, 0, 0), 0);
        due("least", new KnockTable().shape(0, 0, 0), 0);
        for (int wrong : new int[] {-1, 65536, MIN, MAX}) {
            beyond("needs " + wrong, t -> t.shape(wrong, 0, 0));
        }
    }

    @Says("BEYOND: needs, may (0 .. 65535), FAULT.")
    static void promise5May() {
        due("most", new KnockTable().shape(0, 65535, 0), 0);
        for (int wrong : new int[] {-1, 65536, MIN, MAX}) {
            beyond("may " + wrong, t -> t.shape(0, wrong, 0));
        }
    }

    @Says({"BEYOND: needs, may (0 .. 65535), FAULT.", "and FAULT of the first car in hundredths (0 .. 100)."})
    static void promise5Fault() {
        KnockTable t = crashed(0, 0, 0);
        t.shape(0, 0, 100);
        due("most", t.crashIs(0, 8), 100);
        t.shape(0, 0, 0);
        due("least", t.crashIs(0, 8), 0);
        for (int wrong : new int[] {-1, 101, MIN, MAX}) {
            beyond("fault " + wrong, x -> x.shape(0, 0, wrong));
        }
    }

    @Says("ZONES of both cars that it NEEDS, others that it MAY leave besides,")
    static void promise5OneZoneMayBeInBoth() {
        KnockTable t = crashed(0, 0, 257);
        t.shape(257, 257, 10);
        due("it FITS", t.crashIs(0, 6), 1);
    }

    @Says({"FULL.", "SHAPES 0, 1, .. (at most 16)"})
    static void promise5Full() {
        refused("a 17th", FULL, () -> shapes(16), t -> t.shape(0, 0, 0));
        due("a 16th", shapes(15).shape(0, 0, 0), 15);
    }

    @Says({"FULL.", "Each act tells its ERRORS in the order in which they are asked;"})
    static void promise5BeyondIsAskedAheadOfFull() {
        refused("needs", BEYOND, () -> shapes(16), t -> t.shape(65536, 0, 0));
        refused("may", BEYOND, () -> shapes(16), t -> t.shape(0, 65536, 0));
        refused("fault", BEYOND, () -> shapes(16), t -> t.shape(0, 0, 101));
    }

    // ---- 6: crash

    private static KnockTable crashes(int n) {
        KnockTable t = Looks.some();
        while (t.count(2) < n) {
            t.crash(1, 1050, 257);
        }
        return t;
    }

    @Says({"A CRASH: its number.", "CRASHES 0, 1, .. (at most 20)"})
    static void promise6NumbersFrom0On() {
        KnockTable t = cars(2);
        for (int i = 0; i < 20; i++) {
            due("number", t.crash(i % 2 == 0 ? 1 : 100, 0, 0), i);
        }
        due("all twenty", t.count(2), 20);
    }

    @Says({"cars: 100 times the first, and the second;", "a first and a second CAR (SIDES 0, 1; of unlike INSURERS),"})
    static void promise6FirstAndSecondCar() {
        KnockTable t = cars(30);
        int[][] good = {{1, 0, 1}, {100, 1, 0}, {29, 0, 29}, {2900, 29, 0}, {2928, 29, 28}, {1210, 12, 10}};
        for (int[] g : good) {
            int crash = t.crash(g[0], 0, 0);
            due("first of " + g[0], t.crashIs(crash, 0), g[1]);
            due("second of " + g[0], t.crashIs(crash, 1), g[2]);
        }
    }

    @Says("BEYOND.")
    static void promise6NoSuchCar() {
        for (int wrong : new int[] {-1, -100, -99, 5, 99, 500, 501, 105, 10000, MIN, MAX}) {
            beyond("cars " + wrong, t -> t.crash(wrong, 0, 0));
        }
        refused("cars 30", BEYOND, () -> cars(30), t -> t.crash(30, 0, 0));
        refused("cars 3000", BEYOND, () -> cars(30), t -> t.crash(3000, 0, 0));
        refused("without cars", BEYOND, KnockTable::new, t -> t.crash(0, 0, 0));
    }

    @Says({"when: 100 times the DAY, and SPEED;", "a DAY, a SPEED (0 .. 99),", "DAYS are 0 .. 999.", "BEYOND."})
    static void promise6DayAndSpeed() {
        KnockTable t = cars(2);
        int[][] good = {{0, 0, 0}, {99, 0, 99}, {100, 1, 0}, {99900, 999, 0}, {99999, 999, 99}, {1250, 12, 50}};
        for (int[] g : good) {
            int crash = t.crash(1, g[0], 0);
            due("DAY of " + g[0], t.crashIs(crash, 2), g[1]);
            due("SPEED of " + g[0], t.crashIs(crash, 3), g[2]);
        }
        for (int wrong : new int[] {-1, -100, 100000, MIN, MAX}) {
            beyond("when " + wrong, x -> x.crash(1, wrong, 0));
        }
    }

    @Says({"dents as of shape().", "DENTS of both (ZONES),", "BEYOND."})
    static void promise6Dents() {
        KnockTable t = cars(2);
        int[][] good = {{0, 0, 0}, {255, 0, 255}, {256, 1, 0}, {65535, 255, 255}, {32769, 128, 1}};
        for (int[] g : good) {
            int crash = t.crash(1, 0, g[0]);
            due("first of " + g[0], t.crashIs(crash, 4), g[1]);
            due("second of " + g[0], t.crashIs(crash, 5), g[2]);
        }
        for (int wrong : new int[] {-1, 65536, MIN, MAX}) {
            beyond("dents " + wrong, x -> x.crash(1, 0, wrong));
        }
    }

    @Says("KIND: one INSURER has both.")
    static void promise6OneInsurerHasBoth() {
        refused("two cars", KIND, Looks::some, t -> t.crash(3, 0, 0));
        refused("the other way round", KIND, Looks::some, t -> t.crash(300, 0, 0));
        refused("a car with itself", KIND, Looks::some, t -> t.crash(101, 0, 0));
        refused("car 0 with itself", KIND, Looks::some, t -> t.crash(0, 0, 0));
    }

    @Says({"FULL.", "CRASHES 0, 1, .. (at most 20)"})
    static void promise6Full() {
        refused("a 21st", FULL, () -> crashes(20), t -> t.crash(1, 0, 0));
        due("a 20th", crashes(19).crash(1, 0, 0), 19);
    }

    @Says({"KIND: one INSURER has both.", "Each act tells its ERRORS in the order in which they are asked;"})
    static void promise6BeyondThenKindThenFull() {
        refused("when ahead of KIND", BEYOND, Looks::some, t -> t.crash(3, 100000, 0));
        refused("dents ahead of KIND", BEYOND, Looks::some, t -> t.crash(3, 0, 65536));
        refused("KIND ahead of FULL", KIND, () -> crashes(20), t -> t.crash(3, 0, 0));
        refused("BEYOND ahead of FULL", BEYOND, () -> crashes(20), t -> t.crash(1, 0, -1));
    }

    // ---- 7: tells

    @Says({"TELLING of a SIDE's driver becomes SHAPES: what it was.",
        "and TELLINGS of both drivers (SHAPES, as bits; 0: says nothing; 0 at first)."})
    static void promise7WhatItWas() {
        KnockTable t = crashed(0, 0, 0);
        t.crash(100, 0, 0);
        t.shape(0, 0, 10);
        t.shape(0, 0, 20);
        due("first side", t.tells(0, 0, 1), 0);
        due("second side", t.tells(0, 1, 3), 0);
        due("another crash", t.tells(1, 0, 2), 0);
        due("first side again", t.tells(0, 0, 0), 1);
        due("second side again", t.tells(0, 1, 2), 3);
        due("nothing was said", t.tells(0, 0, 0), 0);
        due("another crash again", t.tells(1, 0, 0), 2);
    }

    @Says("BEYOND: also bits of no SHAPES.")
    static void promise7BitsOfNoShapes() {
        KnockTable t = crashed(0, 0, 0);
        due("none of none", t.tells(0, 0, 0), 0);
        refused("one of none", BEYOND, () -> crashed(0, 0, 0), x -> x.tells(0, 0, 1));
        for (int wrong : new int[] {8, 15, 1 << 30, -1, -8, MIN, MAX}) {
            beyond("shapes " + wrong + " of three", x -> x.tells(0, 0, wrong));
        }
        due("all three", Looks.some().tells(0, 0, 7), 1);
    }

    @Says("BEYOND: also bits of no SHAPES.")
    static void promise7AllSixteen() {
        due("all", shapes(16).tells(0, 0, 65535), 1);
        refused("a 17th", BEYOND, () -> shapes(16), t -> t.tells(0, 0, 65536));
        refused("a 17th and all", BEYOND, () -> shapes(16), t -> t.tells(0, 0, 131071));
    }

    @Says({"BEYOND: also bits of no SHAPES.", "(SIDES 0, 1; of unlike INSURERS)"})
    static void promise7NoSuchSide() {
        for (int wrong : new int[] {-1, 2, MIN, MAX}) {
            beyond("side " + wrong, t -> t.tells(0, wrong, 0));
        }
    }

    @Says("BEYOND: also bits of no SHAPES.")
    static void promise7NoSuchCrash() {
        for (int wrong : new int[] {-1, 3, 20, MIN, MAX}) {
            beyond("crash " + wrong, t -> t.tells(wrong, 0, 0));
        }
        due("the last", Looks.some().tells(2, 0, 1), 0);
    }

    // ---- 8: crashIs

    @Says({"Of a CRASH: 0, 1 the CARS, 2 the DAY, 3 SPEED, 4, 5 FRESH dents of SIDES 0, 1, 6 SHAPES that FIT,"
        + " 7 those LEFT, 8 LEAST, 9 MOST, 10 AGREED FAULT."})
    static void promise8WhatACrashIs() {
        KnockTable t = cars(4);
        t.shape(256, 2, 30);
        t.shape(256, 65535, 70);
        t.shape(0, 0, 5);
        t.crash(1, 0, 0);
        t.crash(302, 12345, 258);
        int[] is = {3, 2, 123, 45, 1, 2, 3, 3, 30, 70, 50};
        for (int what = 0; what <= 10; what++) {
            due("what " + what, t.crashIs(1, what), is[what]);
        }
        t.tells(1, 1, 2);
        due("still FIT", t.crashIs(1, 6), 3);
        due("LEFT", t.crashIs(1, 7), 2);
    }

    @Says("BEYOND.")
    static void promise8NoSuchCrash() {
        for (int wrong : new int[] {-1, 3, 20, MIN, MAX}) {
            beyond("crash " + wrong, t -> t.crashIs(wrong, 0));
        }
        due("the last", Looks.some().crashIs(2, 2), 999);
    }

    @Says("BEYOND.")
    static void promise8NoSuchWhat() {
        for (int wrong : new int[] {-1, 11, MIN, MAX}) {
            beyond("what " + wrong, t -> t.crashIs(0, wrong));
        }
    }

    @Says("FRESH dents of a SIDE: DENTS that aren't OLD.")
    static void promise8OldDentsAreNotFresh() {
        KnockTable t = crashed(0b11110000, 0b10101010, 65535);
        t.crash(100, 0, 65535);
        due("first", t.crashIs(0, 4), 0b00001111);
        due("second", t.crashIs(0, 5), 0b01010101);
        due("first, the other way round", t.crashIs(1, 4), 0b01010101);
        due("second, the other way round", t.crashIs(1, 5), 0b00001111);
        t = crashed(255, 255, 65535);
        due("all old", t.crashIs(0, 4) + t.crashIs(0, 5), 0);
        t = crashed(0, 0, 65535);
        due("none old", t.crashIs(0, 4) + t.crashIs(0, 5), 510);
        t = crashed(0b0011, 0b1100, 256 * 0b0110 + 0b0110);
        due("old ones needn't be among the dents", t.crashIs(0, 4) * 256 + t.crashIs(0, 5), 0b0100 * 256 + 0b0010);
    }

    private static int fits(int old0, int old1, int dents, int needs, int may) {
        KnockTable t = crashed(old0, old1, dents);
        t.shape(needs, may, 10);
        return t.crashIs(0, 6);
    }

    @Says("A SHAPE FITS a CRASH, if of both SIDES all ZONES that it NEEDS are FRESH,")
    static void promise8AllNeededAreFresh() {
        due("just these", fits(0, 0, 257, 257, 0), 1);
        due("one of the first lacks", fits(0, 0, 257, 256 * 3 + 1, 0), 0);
        due("one of the second lacks", fits(0, 0, 257, 256 + 3, 0), 0);
        due("needed, but old, on the first", fits(1, 0, 257, 257, 0), 0);
        due("needed, but old, on the second", fits(0, 1, 257, 257, 0), 0);
        due("one lacks that may be, too", fits(0, 0, 257, 256 + 3, 65535), 0);
        due("the dents of the other side don't do", fits(0, 0, 256, 1, 65535), 0);
    }

    @Says("and all FRESH ones are ones that it NEEDS or MAY leave.")
    static void promise8AllFreshAreNeededOrMayBe() {
        due("one more on the first", fits(0, 0, 256 * 3 + 1, 257, 0), 0);
        due("one more on the second", fits(0, 0, 256 + 3, 257, 0), 0);
        due("which may be, on the first", fits(0, 0, 256 * 3 + 1, 257, 256 * 2), 1);
        due("which may be, on the second", fits(0, 0, 256 + 3, 257, 2), 1);
        due("which may be on the other side", fits(0, 0, 256 * 3 + 1, 257, 2), 0);
        due("one more that is old", fits(2, 0, 256 * 3 + 1, 257, 0), 1);
        due("no dents, no needs", fits(0, 0, 0, 0, 0), 1);
        due("no dents, all may be", fits(0, 0, 0, 0, 65535), 1);
        due("all dents, all may be", fits(0, 0, 65535, 0, 65535), 1);
    }

    /** Shapes 0, 1, 2 FIT, with FAULTS 20, 40, 90; 3 and 4 do not. */
    private static KnockTable told(int first, int second) {
        KnockTable t = crashed(0, 0, 0);
        t.shape(0, 0, 20);
        t.shape(0, 0, 40);
        t.shape(0, 0, 90);
        t.shape(1, 0, 1);
        t.shape(1, 0, 99);
        t.tells(0, 0, first);
        t.tells(0, 1, second);
        return t;
    }

    private static int left(int first, int second) {
        return told(first, second).crashIs(0, 7);
    }

    @Says("LEFT are the SHAPES that FIT and stand in both TELLINGS (who says nothing tells all);")
    static void promise8LeftInBoth() {
        due("both tell one in common", left(0b011, 0b110), 0b010);
        due("both tell the same", left(0b101, 0b101), 0b101);
        due("both say nothing", left(0, 0), 0b111);
        due("the first says nothing", left(0, 0b100), 0b100);
        due("the second says nothing", left(0b001, 0), 0b001);
        due("those that don't FIT aren't LEFT", left(0b11001, 0b11011), 0b001);
    }

    @Says("if there are none: those that FIT and stand in one at least;")
    static void promise8LeftInOne() {
        due("nothing in common", left(0b001, 0b100), 0b101);
        due("in common is only what doesn't FIT", left(0b01010, 0b01100), 0b110);
        due("only the first tells what FITS", left(0b00011, 0b01000), 0b011);
        due("only the second tells what FITS", left(0b10000, 0b00110), 0b110);
        due("one says nothing, the other tells what doesn't FIT", left(0, 0b01000), 0b111);
        due("the other way round", left(0b11000, 0), 0b111);
    }

    @Says("if there are none either: those that FIT.")
    static void promise8LeftInNeither() {
        due("both tell what doesn't FIT", left(0b01000, 0b10000), 0b111);
        due("both tell the same that doesn't FIT", left(0b11000, 0b11000), 0b111);
        KnockTable t = crashed(0, 0, 0);
        t.shape(1, 0, 1);
        t.tells(0, 0, 1);
        due("none FITS", t.crashIs(0, 7), 0);
    }

    @Says("LEAST, MOST FAULT (of the first car): of those that are LEFT;")
    static void promise8LeastAndMost() {
        KnockTable t = told(0, 0);
        due("LEAST of all", t.crashIs(0, 8), 20);
        due("MOST of all", t.crashIs(0, 9), 90);
        t.tells(0, 0, 0b110);
        due("LEAST of two", t.crashIs(0, 8), 40);
        t.tells(0, 0, 0b011);
        due("MOST of two", t.crashIs(0, 9), 40);
        t.tells(0, 1, 0b001);
        due("LEAST of one", t.crashIs(0, 8), 20);
        due("MOST of one", t.crashIs(0, 9), 20);
        t = crashed(0, 0, 0);
        t.shape(0, 0, 0);
        due("MOST of one without fault", t.crashIs(0, 9), 0);
        t = crashed(0, 0, 0);
        t.shape(0, 0, 100);
        due("LEAST of one with all fault", t.crashIs(0, 8), 100);
    }

    @Says("0 and 100 without any.")
    static void promise8LeastAndMostWithoutAny() {
        KnockTable t = crashed(0, 0, 0);
        due("LEAST without shapes", t.crashIs(0, 8), 0);
        due("MOST without shapes", t.crashIs(0, 9), 100);
        t.shape(1, 0, 30);
        due("LEAST if none FITS", t.crashIs(0, 8), 0);
        due("MOST if none FITS", t.crashIs(0, 9), 100);
        due("between them", t.crashIs(0, 10), 50);
    }

    private static int agreed(String table) {
        KnockTable t = told(0b011, 0);
        treaty(t, table, 0, 10);
        return t.crashIs(0, 10);
    }

    @Says({"held within 0 .. 100.", "0 TABLE: l LEAST, m MOST, n how many SHAPES are LEFT, v SPEED."})
    static void promise8AgreedFaultByTable() {
        due("LEAST", agreed("l"), 20);
        due("MOST", agreed("m"), 40);
        due("how many are LEFT", agreed("n"), 2);
        due("SPEED", agreed("v"), 77);
        due("just 0", agreed("v - 77"), 0);
        due("below 0", agreed("v - 78"), 0);
        due("far below 0", agreed("-9999*9999"), 0);
        due("just 100", agreed("100"), 100);
        due("above 100", agreed("101"), 100);
        due("far above 100", agreed("9999*9999"), 100);
    }

    @Says("Without: (l + m) / 2.")
    static void promise8AgreedFaultWithoutTable() {
        KnockTable t = told(0b011, 0);
        due("30", t.crashIs(0, 10), 30);
        t = crashed(0, 0, 0);
        t.shape(0, 0, 25);
        t.shape(0, 0, 30);
        due("27.5 is cut", t.crashIs(0, 10), 27);
    }

    @Says("AGREED FAULT: what TABLE in force on the DAY of the CRASH says,")
    static void promise8AgreedFaultByTheDayOfTheCrash() {
        KnockTable t = crashed(0, 0, 0);
        t.crash(1, 999, 0);
        t.crash(1, 99900, 0);
        treaty(t, "10", 0, 10);
        treaty(t, "20", 1, 0);
        treaty(t, "30", 2, 0);
        treaty(t, "40", 0, 11);
        due("on its DAY", t.crashIs(0, 10), 10);
        due("the day ahead", t.crashIs(1, 10), 50);
        due("later", t.crashIs(2, 10), 40);
    }

    public static void main(String[] args) throws ReflectiveOperationException {
        run(CarsTest.class);
    }
}
