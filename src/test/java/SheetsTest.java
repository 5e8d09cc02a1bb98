/** Promises 33 to 35, and what the terms say of them; numbers of a sheet are looked at through chains. */
public final class SheetsTest extends Answers {

    /** Whether a number of a sheet is v: it comes as the front of a car, whose next one, by its back, must be v. */
    private static boolean is(KnockTable t, int sheet, int at, int bits, int v) {
        Looks.row(t, 3, bits, 100, 100, 0, v);
        int moved = t.move(sheet, at, 3, 0, 1);
        int orders = t.chain(3, 0, 0);
        return moved == 1 && orders == 1 && t.chain(3, 0, 1) == 0;
    }

    private static void numbers(KnockTable t, int sheet, int bits, int... due) {
        for (int i = 0; i < due.length; i++) {
            holds("number " + i + " is " + due[i], is(t, sheet, i, bits, due[i]));
        }
        due("no more numbers", t.put(sheet, due.length, 0), BEYOND);
    }

    private static KnockTable row(int bits, int... v) {
        KnockTable t = new KnockTable();
        Looks.row(t, 0, bits, v);
        return t;
    }

    // ---- 33: sheet

    @Says({"A SHEET has n numbers, all 0, of so many bits (8, 16, 32;", "SHEETS 0 .. 3 are rows of 8, 16, 32 bits (with a sign),"})
    static void promise33AllNumbersAre0() {
        for (int bits : new int[] {8, 16, 32}) {
            KnockTable t = row(bits, 1, 2, 3);
            due("anew", t.sheet(0, bits, 5), 1);
            numbers(t, 0, bits, 0, 0, 0, 0, 0);
        }
    }

    @Says("A SHEET has n numbers, all 0,")
    static void promise33ASmallerSheetAndAGreaterOne() {
        KnockTable t = row(8, 1, 2, 3, 4);
        t.sheet(0, 8, 2);
        numbers(t, 0, 8, 0, 0);
        t.sheet(0, 8, 4);
        numbers(t, 0, 8, 0, 0, 0, 0);
    }

    @Says({"at most 24 numbers,", "BEYOND."})
    static void promise33HowMany() {
        KnockTable t = new KnockTable();
        due("the most", t.sheet(0, 32, 24), 1);
        due("its last", t.put(0, 23, 5), 1);
        due("not one more", t.put(0, 24, 5), BEYOND);
        due("none", t.sheet(0, 16, 0), 1);
        due("no number", t.put(0, 0, 0), BEYOND);
        for (int wrong : new int[] {25, 26, MAX}) {
            beyond("n " + wrong, x -> x.sheet(0, 8, wrong));
            beyond("n " + wrong + " of one that is missing", x -> x.sheet(3, 32, wrong));
        }
    }

    @Says("STATE: n is below 0 (ahead of BEYOND of n).")
    static void promise33Below0() {
        for (int wrong : new int[] {-1, -25, MIN}) {
            refused("n " + wrong, STATE, Looks::some, t -> t.sheet(0, 8, wrong));
            refused("n " + wrong + " of one that is missing", STATE, Looks::some, t -> t.sheet(3, 16, wrong));
        }
    }

    @Says({"BEYOND. STATE: n is below 0", "Each act tells its ERRORS in the order in which they are asked;"})
    static void promise33SheetAndBitsAreAskedAheadOfState() {
        beyond("sheet", t -> t.sheet(4, 8, -1));
        beyond("bits", t -> t.sheet(0, 9, -1));
    }

    @Says("0: it is missing, n doesn't matter): 1.")
    static void promise33Missing() {
        for (int n : new int[] {0, -1, 25, MIN, MAX}) {
            KnockTable t = row(8, 1, 2);
            due("n " + n, t.sheet(0, 0, n), 1);
            due("missing", t.put(0, 0, 0), NONE);
            due("no error", t.told(1) + t.told(3), 0);
        }
        due("missing already", new KnockTable().sheet(3, 0, 0), 1);
    }

    @Says("BEYOND.")
    static void promise33NoSuchSheet() {
        for (int wrong : new int[] {-1, 4, MIN, MAX}) {
            beyond("sheet " + wrong, t -> t.sheet(wrong, 8, 1));
            beyond("sheet " + wrong + " that is to be missing", t -> t.sheet(wrong, 0, 1));
        }
        due("the last", new KnockTable().sheet(3, 8, 1), 1);
    }

    @Says({"of so many bits (8, 16, 32;", "BEYOND."})
    static void promise33NoSuchBits() {
        for (int wrong : new int[] {-8, -1, 1, 4, 7, 9, 15, 17, 24, 31, 33, 64, MIN, MAX}) {
            beyond("bits " + wrong, t -> t.sheet(0, wrong, 1));
        }
    }

    @Says("A SHEET has n numbers,")
    static void promise33SheetsAreApart() {
        KnockTable t = row(8, 1, 2);
        Looks.row(t, 1, 8, 3, 4);
        t.sheet(2, 8, 2);
        numbers(t, 0, 8, 1, 2);
        numbers(t, 1, 8, 3, 4);
        numbers(t, 2, 8, 0, 0);
    }

    // ---- 34: put

    @Says("Number i of a SHEET becomes v (its lowest bits): 1.")
    static void promise34BecomesV() {
        KnockTable t = row(16, 7, 8, 9);
        due("put", t.put(0, 1, 1234), 1);
        numbers(t, 0, 16, 7, 1234, 9);
    }

    private static void cut(int bits, int... putAndDue) {
        KnockTable t = new KnockTable();
        t.sheet(1, bits, 2);
        for (int i = 0; i < putAndDue.length; i += 2) {
            due("put", t.put(1, 1, putAndDue[i]), 1);
            holds(putAndDue[i] + " is " + putAndDue[i + 1], is(t, 1, 1, bits, putAndDue[i + 1]));
        }
    }

    @Says({"(its lowest bits)", "rows of 8, 16, 32 bits (with a sign),"})
    static void promise34LowestEightBits() {
        cut(8, 127, 127, 128, -128, 255, -1, 256, 0, -128, -128, -129, 127, MIN, 0, MAX, -1);
    }

    @Says({"(its lowest bits)", "rows of 8, 16, 32 bits (with a sign),"})
    static void promise34LowestSixteenBits() {
        cut(16, 32767, 32767, 32768, -32768, 65535, -1, 65536, 0, -32768, -32768, -32769, 32767, MIN, 0, MAX, -1, 200, 200);
    }

    @Says({"(its lowest bits)", "rows of 8, 16, 32 bits (with a sign),"})
    static void promise34AllThirtyTwoBits() {
        cut(32, MIN, MIN, MAX, MAX, 65536, 65536, -1, -1, 40000, 40000);
    }

    @Says("BEYOND: no such SHEET.")
    static void promise34NoSuchSheet() {
        for (int wrong : new int[] {-1, 4, MIN, MAX}) {
            beyond("sheet " + wrong, t -> t.put(wrong, 0, 0));
        }
    }

    @Says("NONE: it is missing.")
    static void promise34Missing() {
        refused("missing", NONE, Looks::some, t -> t.put(3, 0, 0));
        refused("ahead of no such number", NONE, Looks::some, t -> t.put(3, -1, 0));
        refused("ahead of no such number", NONE, Looks::some, t -> t.put(3, 24, 0));
    }

    @Says("BEYOND: no such number.")
    static void promise34NoSuchNumber() {
        for (int wrong : new int[] {-1, 4, 23, 24, MIN, MAX}) {
            beyond("i " + wrong, t -> t.put(1, wrong, 9));
        }
        due("the last", Looks.some().put(1, 3, 9), 1);
    }

    // ---- 35: move

    private static KnockTable two() {
        KnockTable t = row(8, 1, 2, 3, 4, 5, 6);
        Looks.row(t, 1, 8, 7, 8, 9);
        Looks.row(t, 2, 16, 7, 8, 9);
        return t;
    }

    @Says("n numbers of a SHEET, from number i on, come to another one (or the same), from its number j on,")
    static void promise35ToAnother() {
        KnockTable t = two();
        due("two", t.move(0, 3, 1, 1, 2), 2);
        numbers(t, 1, 8, 7, 4, 5);
        numbers(t, 0, 8, 1, 2, 3, 4, 5, 6);
        due("to the last", t.move(0, 5, 1, 2, 1), 1);
        numbers(t, 1, 8, 7, 4, 6);
        due("all", t.move(1, 0, 0, 3, 3), 3);
        numbers(t, 0, 8, 1, 2, 3, 7, 4, 6);
    }

    @Says({"(or the same)", "as they all were: n."})
    static void promise35WithinTheSame() {
        KnockTable t = two();
        due("up", t.move(0, 0, 0, 2, 4), 4);
        numbers(t, 0, 8, 1, 2, 1, 2, 3, 4);
        t = two();
        due("up by one", t.move(0, 0, 0, 1, 5), 5);
        numbers(t, 0, 8, 1, 1, 2, 3, 4, 5);
        t = two();
        due("down", t.move(0, 1, 0, 0, 5), 5);
        numbers(t, 0, 8, 2, 3, 4, 5, 6, 6);
        t = two();
        due("in place", t.move(0, 0, 0, 0, 6), 6);
        numbers(t, 0, 8, 1, 2, 3, 4, 5, 6);
    }

    @Says("as they all were: n.")
    static void promise35TwentyFourOfThirtyTwoBits() {
        KnockTable t = new KnockTable();
        t.sheet(0, 32, 24);
        t.sheet(1, 32, 24);
        t.put(0, 0, MIN);
        t.put(0, 23, MAX);
        due("all", t.move(0, 0, 1, 0, 24), 24);
        holds("the first", is(t, 1, 0, 32, MIN));
        holds("the last", is(t, 1, 23, 32, MAX));
    }

    @Says("BEYOND: no such SHEET.")
    static void promise35NoSuchSheet() {
        for (int wrong : new int[] {-1, 4, MIN, MAX}) {
            beyond("sheet " + wrong, t -> t.move(wrong, 0, 0, 0, 1));
            beyond("other " + wrong, t -> t.move(0, 0, wrong, 0, 1));
        }
    }

    @Says("NONE: one is missing.")
    static void promise35Missing() {
        refused("from", NONE, Looks::some, t -> t.move(3, 0, 0, 0, 1));
        refused("to", NONE, Looks::some, t -> t.move(0, 0, 3, 0, 1));
        refused("both", NONE, Looks::some, t -> t.move(3, 0, 3, 0, 0));
    }

    @Says("KIND: they are of unlike bits.")
    static void promise35UnlikeBits() {
        refused("8 and 16", KIND, SheetsTest::two, t -> t.move(0, 0, 2, 0, 1));
        refused("16 and 8", KIND, SheetsTest::two, t -> t.move(2, 0, 0, 0, 1));
        refused("for none, too", KIND, SheetsTest::two, t -> t.move(0, 0, 2, 0, 0));
    }

    @Says("BEYOND: n, i, or j is below 0,")
    static void promise35Below0() {
        for (int wrong : new int[] {-1, -24, MIN}) {
            refused("n " + wrong, BEYOND, SheetsTest::two, t -> t.move(0, 0, 1, 0, wrong));
            refused("i " + wrong, BEYOND, SheetsTest::two, t -> t.move(0, wrong, 1, 0, 1));
            refused("j " + wrong, BEYOND, SheetsTest::two, t -> t.move(0, 0, 1, wrong, 1));
            refused("n behind them " + wrong, BEYOND, SheetsTest::two, t -> t.move(0, 1, 1, 1, wrong));
        }
    }

    @Says("or they don't stand there")
    static void promise35NotThere() {
        int[][] wrong = {{4, 0, 3}, {6, 0, 1}, {0, 1, 3}, {0, 3, 1}, {0, 0, 4}, {0, 0, 7}, {3, 0, 4}, {MAX, 0, 1}, {0, MAX, 1},
            {1, 1, MAX}, {MAX, 0, MAX}, {0, MAX, MAX}};
        for (int[] w : wrong) {
            refused("from " + w[0] + " to " + w[1] + " so many: " + w[2], BEYOND, SheetsTest::two,
                    t -> t.move(0, w[0], 1, w[1], w[2]));
        }
        refused("behind the end, where another stood", BEYOND, () -> {
            KnockTable t = two();
            t.sheet(0, 8, 2);
            return t;
        }, t -> t.move(0, 2, 1, 0, 1));
    }

    @Says("(n 0, too).")
    static void promise35NoneOfThem() {
        due("none", two().move(0, 0, 1, 0, 0), 0);
        due("none at the end", two().move(0, 6, 1, 3, 0), 0);
        refused("i behind the end", BEYOND, SheetsTest::two, t -> t.move(0, 7, 1, 0, 0));
        refused("j behind the end", BEYOND, SheetsTest::two, t -> t.move(0, 0, 1, 4, 0));
        refused("i below 0", BEYOND, SheetsTest::two, t -> t.move(0, -1, 1, 0, 0));
        refused("j below 0", BEYOND, SheetsTest::two, t -> t.move(0, 0, 1, -1, 0));
        KnockTable t = two();
        t.sheet(0, 8, 0);
        due("none of an empty one", t.move(0, 0, 0, 0, 0), 0);
    }

    @Says({"BEYOND: no such SHEET. NONE: one is missing. KIND: they are of unlike bits. BEYOND: n, i, or j is below 0,",
        "Each act tells its ERRORS in the order in which they are asked;"})
    static void promise35BeyondThenNoneThenKindThenBeyond() {
        beyond("no such ahead of missing", t -> t.move(3, 0, 4, 0, 0));
        beyond("no such ahead of missing", t -> t.move(4, 0, 3, 0, 0));
        refused("missing ahead of n", NONE, Looks::some, t -> t.move(3, 0, 0, 0, -1));
        refused("missing ahead of unlike bits", NONE, Looks::some, t -> t.move(2, 0, 3, 0, 1));
        refused("unlike bits ahead of n", KIND, SheetsTest::two, t -> t.move(0, 0, 2, 0, -1));
        refused("unlike bits ahead of i", KIND, SheetsTest::two, t -> t.move(0, 9, 2, 0, 1));
    }

    public static void main(String[] args) throws ReflectiveOperationException {
        run(SheetsTest.class);
    }
}
