/** Promises 9 to 12, and what the terms say of them: zones, rates, worth, what goes back. */
public final class WorthTest extends Answers {

    // ---- 9: zone

    private static void row(int what, int top) {
        KnockTable t = new KnockTable();
        for (int zone = 0; zone < 8; zone++) {
            due("0 at first", t.zone(zone, what, zone), 0);
        }
        due("most", t.zone(7, what, top), 7);
        due("what it was", t.zone(7, what, 0), top);
        due("least", t.zone(7, what, 1), 0);
        due("of another zone", t.zone(6, what, 0), 6);
        due("of another what", t.zone(7, (what + 1) % 3, 0), 0);
        for (int wrong : new int[] {-1, top + 1, MIN, MAX}) {
            beyond("v " + wrong, x -> x.zone(0, what, wrong));
        }
    }

    @Says({"PRICE (what 0),", "Of each ZONE: a PRICE (0 .. 9999)", "of its part (0 at first).", "BEYOND."})
    static void promise9Price() {
        row(0, 9999);
    }

    @Says({"HOURS (1),", "and HOURS (0 .. 99)", "BEYOND."})
    static void promise9Hours() {
        row(1, 99);
    }

    @Says({"DELAY (2) of a ZONE becomes v: what it was.", "and a DELAY (0 .. 60 DAYS) of its part (0 at first).", "BEYOND."})
    static void promise9Delay() {
        row(2, 60);
    }

    @Says("BEYOND.")
    static void promise9NoSuchZone() {
        for (int wrong : new int[] {-1, 8, MIN, MAX}) {
            beyond("zone " + wrong, t -> t.zone(wrong, 0, 0));
        }
    }

    @Says("BEYOND.")
    static void promise9NoSuchWhat() {
        for (int wrong : new int[] {-1, 3, MIN, MAX}) {
            beyond("what " + wrong, t -> t.zone(0, wrong, 0));
        }
    }

    // ---- 10: rate

    private static void bounds(int what, int top, int first) {
        KnockTable t = new KnockTable();
        due("at first", t.rate(what, top), first);
        due("most", t.rate(what, 0), top);
        due("least", t.rate(what, 1), 0);
        for (int other = 0; other < 7; other++) {
            if (other != what) {
                due("of another", t.rate(other, 0), new KnockTable().rate(other, 0));
            }
        }
        for (int wrong : new int[] {-1, top + 1, MIN, MAX}) {
            beyond("v " + wrong, x -> x.rate(what, wrong));
        }
    }

    @Says({"0 RATE,", "becomes v: what it was.", "BEYOND.", "RATE of an hour (0 .. 99; 10 at first),"})
    static void promise10Rate() {
        bounds(0, 99, 10);
    }

    @Says({"1 FALL,", "FALL in hundredths a year (0 .. 50; 15),", "BEYOND."})
    static void promise10Fall() {
        bounds(1, 50, 15);
    }

    @Says({"2 SHARE,", "SHARE (0 .. 100; 70),", "BEYOND."})
    static void promise10Share() {
        bounds(2, 100, 70);
    }

    @Says({"3 SALVAGE,", "SALVAGE (0 .. 100; 20),", "BEYOND."})
    static void promise10Salvage() {
        bounds(3, 100, 20);
    }

    @Says({"4 HIRE,", "HIRE a DAY (0 .. 99; 30),", "BEYOND."})
    static void promise10Hire() {
        bounds(4, 99, 30);
    }

    @Says({"5 BOUND,", "BOUND (0 .. 9999; 0),", "BEYOND."})
    static void promise10Bound() {
        bounds(5, 9999, 0);
    }

    @Says({"6 INTEREST", "INTEREST in thousandths a DAY (0 .. 50; 1).", "BEYOND."})
    static void promise10Interest() {
        bounds(6, 50, 1);
    }

    @Says("BEYOND.")
    static void promise10NoSuchWhat() {
        for (int wrong : new int[] {-1, 7, MIN, MAX}) {
            beyond("what " + wrong, t -> t.rate(wrong, 0));
        }
    }

    // ---- 11: worth

    /**
     * On day 10 a car of BOOK 8500 with zones 0, 1 dented meets one of BOOK 1445 with zone 0 (zone 1 of it is old);
     * 40 hundredths are the first one's fault.
     */
    private static KnockTable two() {
        KnockTable t = new KnockTable();
        t.car(0, 10000, 1300, 0);
        t.car(1, 2000, 2050, 2);
        t.shape(0, 65535, 40);
        t.zone(0, 0, 500);
        t.zone(0, 1, 9);
        t.zone(0, 2, 4);
        t.zone(1, 0, 300);
        t.zone(1, 1, 8);
        t.zone(1, 2, 60);
        t.zone(7, 0, 10);
        t.crash(1, 1000, 0b11 * 256 + 0b11);
        return t;
    }

    /** One car with all zones dented meets one with none; all parts are alike. */
    private static KnockTable all(int carPrice, int price, int hours, int delay) {
        KnockTable t = new KnockTable();
        t.car(0, carPrice, 0, 0);
        t.car(1, 1, 0, 0);
        for (int zone = 0; zone < 8; zone++) {
            t.zone(zone, 0, price);
            t.zone(zone, 1, hours);
            t.zone(zone, 2, delay);
        }
        t.crash(1, 1000, 65280);
        return t;
    }

    @Says({"Of a SIDE of a CRASH: 0 REPAIR, 1 1 if it is TOTAL, else 0, 2 LOSS, 3 DAYS of hire, 4 of these by DELAY"
        + " (0 of TOTAL), 5 CLAIM.", "CLAIM of a SIDE: LOSS and DAYS of hire times HIRE,"})
    static void promise11ARepair() {
        // 800 and 17 hours of 10; 60 days and 17 hours by 8, up; (970 + 63 * 30) * 60 / 100
        int[] first = {970, 0, 970, 63, 60, 1716};
        // zone 1 is old: 500 and 9 hours; 4 and 2 days; (590 + 180) * 40 / 100
        int[] second = {590, 0, 590, 6, 4, 308};
        for (int what = 0; what <= 5; what++) {
            due("first side, what " + what, two().worth(0, 0, what), first[what]);
            due("second side, what " + what, two().worth(0, 1, what), second[what]);
        }
    }

    @Says({"1 1 if it is TOTAL, else 0,", "4 of these by DELAY (0 of TOTAL), 5 CLAIM."})
    static void promise11ATotalLoss() {
        KnockTable t = two();
        t.zone(0, 0, 2000);
        // LOSS 1445 - 289; (1156 + 14 * 30) * 40 / 100 is 630.4
        int[] second = {2090, 1, 1156, 14, 0, 630};
        for (int what = 0; what <= 5; what++) {
            due("second side, what " + what, t.worth(0, 1, what), second[what]);
        }
    }

    @Says("REPAIR of a SIDE: of its FRESH ZONES all PRICES and HOURS times RATE.")
    static void promise11RepairAtItsEdges() {
        due("no dents", all(1, 9999, 99, 60).worth(0, 1, 0), 0);
        KnockTable t = all(1, 9999, 99, 60);
        t.rate(0, 99);
        due("the most", t.worth(0, 0, 0), 8 * 9999 + 8 * 99 * 99);
        t.rate(0, 0);
        due("hours for nothing", t.worth(0, 0, 0), 8 * 9999);
        due("nothing", all(1, 0, 0, 0).worth(0, 0, 0), 0);
        due("an hour of each", all(1, 0, 1, 0).worth(0, 0, 0), 80);
    }

    private static int total(int price, int share) {
        KnockTable t = new KnockTable();
        t.car(0, 1445, 0, 0);
        t.car(1, 1, 0, 0);
        t.zone(3, 0, price);
        t.rate(2, share);
        t.crash(1, 0, 8 * 256);
        return t.worth(0, 0, 1);
    }

    @Says("It is TOTAL, if REPAIR is above SHARE hundredths of BOOK.")
    static void promise11TotalAtItsEdges() {
        due("1011 isn't above 1011.5", total(1011, 70), 0);
        due("1012 is", total(1012, 70), 1);
        due("BOOK isn't above BOOK", total(1445, 100), 0);
        due("1 more is", total(1446, 100), 1);
        due("nothing isn't above nothing", total(0, 0), 0);
        due("1 is above nothing", total(1, 0), 1);
    }

    private static int loss(int salvage) {
        KnockTable t = two();
        t.zone(0, 0, 9999);
        t.rate(3, salvage);
        return t.worth(0, 1, 2);
    }

    @Says("LOSS: REPAIR, or, if TOTAL, BOOK less SALVAGE hundredths of it (these cut).")
    static void promise11LossAtItsEdges() {
        due("no SALVAGE", loss(0), 1445);
        due("all is SALVAGE", loss(100), 0);
        due("476.85 are cut", loss(33), 1445 - 476);
        due("14.45 are cut", loss(1), 1445 - 14);
        KnockTable t = two();
        t.rate(3, 99);
        due("none of a REPAIR", t.worth(0, 1, 2), 590);
    }

    @Says("DAYS of hire: of one that is TOTAL 14;")
    static void promise11DaysOfATotal() {
        due("with DELAY", all(1, 9999, 99, 60).worth(0, 0, 3), 14);
        due("without", all(1, 9999, 0, 0).worth(0, 0, 3), 14);
        due("of these by DELAY", all(1, 9999, 99, 60).worth(0, 0, 4), 0);
    }

    @Says({"else the greatest DELAY of FRESH ZONES and all HOURS of these by 8, up (all HOURS together).",
        "Quotients are cut toward 0."})
    static void promise11DaysOfHoursAreRoundedUp() {
        int[][] due = {{0, 0}, {1, 1}, {7, 1}, {8, 1}, {9, 2}, {16, 2}, {17, 3}, {99, 13}};
        KnockTable t = two();
        t.zone(0, 2, 0);
        t.rate(0, 1);
        for (int[] d : due) {
            t.zone(0, 1, d[0]);
            due("days of " + d[0] + " hours", t.worth(0, 1, 3), d[1]);
        }
        due("eight times 1 is one day", all(9999, 0, 1, 0).worth(0, 0, 3), 1);
        due("eight times 3 are three", all(9999, 0, 3, 0).worth(0, 0, 3), 3);
        due("the most", all(99999, 0, 99, 60).worth(0, 0, 3), 60 + 99);
    }

    @Says("else the greatest DELAY of FRESH ZONES")
    static void promise11TheGreatestDelay() {
        KnockTable t = two();
        due("not the sum", t.worth(0, 0, 4), 60);
        due("not of what is OLD", t.worth(0, 1, 4), 4);
        t.zone(0, 2, 60);
        t.zone(1, 2, 3);
        due("in another zone", t.worth(0, 0, 4), 60);
        t.zone(2, 2, 60);
        t.zone(0, 2, 1);
        due("not of what isn't dented", t.worth(0, 0, 4), 3);
        due("no dents", all(1, 9, 9, 60).worth(0, 1, 4), 0);
        due("no dents, no days", all(1, 9, 9, 60).worth(0, 1, 3), 0);
    }

    @Says({"times the other SIDE's AGREED FAULT (of the second car: 100 less the first's), by 100.",
        "CLAIM of a SIDE: LOSS and DAYS of hire times HIRE,"})
    static void promise11ClaimAtItsEdges() {
        KnockTable t = two();
        treaty(t, "0", 0, 0);
        due("the first without fault claims all", t.worth(0, 0, 5), 970 + 63 * 30);
        due("of whom the second gets nothing", t.worth(0, 1, 5), 0);
        treaty(t, "100", 0, 0);
        due("the first with all fault claims nothing", t.worth(0, 0, 5), 0);
        due("the second claims all", t.worth(0, 1, 5), 590 + 6 * 30);
        treaty(t, "99", 0, 0);
        due("28.6 are cut", t.worth(0, 0, 5), 28);
        t.rate(4, 0);
        due("no HIRE: 9.7 are cut", t.worth(0, 0, 5), 9);
        t.rate(4, 99);
        due("the most HIRE: 72.07 are cut", t.worth(0, 0, 5), 72);
    }

    @Says("BEYOND.")
    static void promise11NoSuchCrash() {
        for (int wrong : new int[] {-1, 3, 20, MIN, MAX}) {
            beyond("crash " + wrong, t -> t.worth(wrong, 0, 0));
        }
        due("the last", Looks.some().worth(2, 1, 0), 400 + 105 * 11);
    }

    @Says("BEYOND.")
    static void promise11NoSuchSide() {
        for (int wrong : new int[] {-1, 2, MIN, MAX}) {
            beyond("side " + wrong, t -> t.worth(0, wrong, 0));
        }
    }

    @Says("BEYOND.")
    static void promise11NoSuchWhat() {
        for (int wrong : new int[] {-1, 6, MIN, MAX}) {
            beyond("what " + wrong, t -> t.worth(0, 0, wrong));
        }
    }

    // ---- 12: back

    @Says({"What goes to a SIDE's driver of coin (0 .. 999999) that came back.", "Without: the lesser of r and e."})
    static void promise12TheLesserOfCoinAndExcess() {
        KnockTable t = two();
        due("nothing", t.back(0, 0, 0), 0);
        due("less than EXCESS", t.back(0, 0, 299), 299);
        due("as EXCESS", t.back(0, 0, 300), 300);
        due("more than EXCESS", t.back(0, 0, 301), 300);
        due("the most, and the other side's", t.back(0, 1, 999999), 50);
        due("no EXCESS", all(1, 0, 0, 0).back(0, 0, 5), 0);
    }

    private static int back(String text, int side, int coin) {
        KnockTable t = two();
        treaty(t, text, 1, 10);
        return t.back(0, side, coin);
    }

    @Says("1 BACK, what of coin that came back goes to the driver: r that coin, e EXCESS, c LOSS.")
    static void promise12ByBack() {
        due("r", back("r", 0, 999999), 999999);
        due("e", back("e", 0, 999999), 300);
        due("e of the other side", back("e", 1, 999999), 50);
        due("c", back("c", 0, 999999), 970);
        due("c of the other side", back("c", 1, 999999), 590);
        KnockTable t = two();
        t.zone(0, 0, 9999);
        treaty(t, "c", 1, 10);
        due("c of a TOTAL", t.back(0, 1, 999999), 1156);
    }

    @Says("and held within 0 and r.")
    static void promise12HeldWithin0AndCoin() {
        due("just r", back("r", 0, 7), 7);
        due("above r", back("r + 1", 0, 7), 7);
        due("far above r", back("9999*9999", 0, 7), 7);
        due("just 0", back("0", 0, 7), 0);
        due("below 0", back("-1", 0, 7), 0);
        due("far below 0", back("-9999*9999", 0, 7), 0);
        due("above r, which is 0", back("1", 0, 0), 0);
        due("below r, which is 0", back("-1", 0, 0), 0);
    }

    @Says("BACK is by the one in force on the DAY of the CRASH, too,")
    static void promise12ByTheDayOfTheCrash() {
        KnockTable t = two();
        treaty(t, "2", 1, 11);
        due("not yet", t.back(0, 0, 1000), 300);
        treaty(t, "3", 1, 10);
        due("on its DAY", t.back(0, 0, 1000), 3);
        treaty(t, "4", 1, 0);
        due("told last", t.back(0, 0, 1000), 4);
        treaty(t, "5", 0, 0);
        treaty(t, "6", 2, 0);
        due("of no other USE", t.back(0, 0, 1000), 4);
    }

    @Says({"coin (0 .. 999999)", "BEYOND."})
    static void promise12Coin() {
        for (int wrong : new int[] {-1, 1000000, MIN, MAX}) {
            beyond("coin " + wrong, t -> t.back(0, 0, wrong));
        }
    }

    @Says("BEYOND.")
    static void promise12NoSuchCrash() {
        for (int wrong : new int[] {-1, 3, 20, MIN, MAX}) {
            beyond("crash " + wrong, t -> t.back(wrong, 0, 0));
        }
    }

    @Says("BEYOND.")
    static void promise12NoSuchSide() {
        for (int wrong : new int[] {-1, 2, MIN, MAX}) {
            beyond("side " + wrong, t -> t.back(0, wrong, 0));
        }
    }

    public static void main(String[] args) throws ReflectiveOperationException {
        run(WorthTest.class);
    }
}
