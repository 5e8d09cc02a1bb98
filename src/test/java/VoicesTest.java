/** Promises 31 and 32, and what the terms say of them: voices of entries, and THE TRACE. */
public final class VoicesTest extends Answers {
    private static final int ASKS = 0;
    private static final int SHOWS = 1;
    private static final int HOLDS = 2;
    private static final int PAYS = 3;
    private static final int A_DENT = 0;
    private static final int A_HELD = 1;
    private static final int AN_AGAIN = 2;
    private static final int A_LOSS = 3;

    /** Entry 0: a DENT, 1: HELD, 2: AGAIN, 3: a LOSS; all of one month. */
    private static KnockTable kinds(int month) {
        KnockTable t = new KnockTable();
        t.car(0, 99999, 0, 0);
        t.car(1, 99999, 0, 0);
        t.car(2, 100, 0, 0);
        t.zone(0, 0, 1000);
        t.crash(1, 0, 257);
        t.crash(201, 0, 257);
        t.enter(0, 0, 1, 1000 * month);
        t.enter(0, 1, 9999, 1000 * month);
        t.enter(0, 0, 1, 1000 * month);
        t.enter(1, 0, 1, 1000 * month);
        int[] due = {1, 3, 4, 2};
        for (int i = 0; i < 4; i++) {
            due("kind of " + i, t.entryIs(i, 7), due[i]);
        }
        return t;
    }

    private static void speaks(int month, int entry, int act, int x, int due, int... bodies) {
        KnockTable t = kinds(month);
        String what = "entry " + entry + " act " + act + " of " + x;
        due(what, t.voice(entry, act, x), due);
        due("how many bodies of " + what, t.count(8), bodies.length);
        for (int i = 0; i < bodies.length; i++) {
            due("body " + i + " of " + what, t.trace(i), bodies[i]);
        }
        due("no more of " + what, t.trace(bodies.length), NONE);
    }

    // ---- 31: voice

    @Says({"A VOICE of an ENTRY.", "BODIES: ENTRY: 10 asks: x + h.", "n is its number, h its MONTH: 0 asks, 1 shows, 2 holds, 3 pays."})
    static void promise31Asks() {
        speaks(9, A_DENT, ASKS, 7, 16, 10);
        speaks(33, A_DENT, ASKS, 0, 33, 10);
        speaks(0, A_DENT, ASKS, -7, -7, 10);
    }

    @Says({"LOSS: 30 asks: super.asks(x) * 3.", "HELD: 40 asks: 0 - super.asks(x)."})
    static void promise31AsksOfOtherKinds() {
        speaks(9, A_LOSS, ASKS, 7, 48, 30, 10);
        speaks(9, A_HELD, ASKS, 7, -16, 40, 10);
        speaks(9, AN_AGAIN, ASKS, 7, -16, 40, 10);
    }

    @Says({"11 shows: asks(x) * 2.", "DENT: 20 shows: super.shows(x) + 1."})
    static void promise31Shows() {
        speaks(9, A_DENT, SHOWS, 7, 33, 20, 11, 10);
        speaks(9, A_LOSS, SHOWS, 7, 97, 20, 11, 30, 10);
        speaks(9, A_HELD, SHOWS, 7, -32, 11, 40, 10);
    }

    @Says({"AGAIN: 50 shows: super.shows(x) / 2.", "Quotients are cut toward 0."})
    static void promise31ShowsOfAgain() {
        speaks(9, AN_AGAIN, SHOWS, 8, -17, 50, 11, 40, 10);
        speaks(9, AN_AGAIN, SHOWS, -30, 21, 50, 11, 40, 10);
        // asks is 1073741825, twice that wraps to MIN + 2
        speaks(0, AN_AGAIN, SHOWS, -1073741825, (MIN + 2) / 2, 50, 11, 40, 10);
    }

    @Says({"12 holds: shows(x) - n.", "31 holds: super.holds(x) ^ h.", "41 holds: super.holds(x + n).",
        "51 holds: super.holds(x) - asks(2)."})
    static void promise31Holds() {
        speaks(9, A_DENT, HOLDS, 7, 33, 12, 20, 11, 10);
        speaks(9, A_LOSS, HOLDS, 7, 94 ^ 9, 31, 12, 20, 11, 30, 10);
        speaks(9, A_HELD, HOLDS, 7, -34 - 1, 41, 12, 11, 40, 10);
        // 41 hands 9 to 12: shows(9) is -18, less 2; less asks(2), -11
        speaks(9, AN_AGAIN, HOLDS, 7, -20 + 11, 51, 41, 12, 50, 11, 40, 10, 40, 10);
    }

    @Says({"21 pays: super.pays(x) + holds(1).", "52 pays: asks(x) - super.pays(x)."})
    static void promise31Pays() {
        speaks(9, A_DENT, PAYS, 20, 2 + 21, 21, 13, 12, 20, 11, 10);
        // holds(1) is (61 - 3) ^ 9
        speaks(9, A_LOSS, PAYS, 20, 3 + (58 ^ 9), 21, 13, 31, 12, 20, 11, 30, 10);
        speaks(9, A_HELD, PAYS, 20, 2, 13);
        speaks(9, AN_AGAIN, PAYS, 15, -24 - 2, 52, 40, 10, 13);
    }

    @Says({"13 pays: x by (h - n), cut", "Quotients are cut toward 0."})
    static void promise31PaysIsCut() {
        speaks(9, A_HELD, PAYS, 15, 1, 13);
        speaks(9, A_HELD, PAYS, -15, -1, 13);
        speaks(9, A_HELD, PAYS, 7, 0, 13);
        speaks(9, A_HELD, PAYS, -7, 0, 13);
        speaks(0, A_HELD, PAYS, 15, -15, 13);
        speaks(0, AN_AGAIN, PAYS, -3, 3 - 1, 52, 40, 10, 13);
    }

    @Says("(PARTED if that is 0; that is all that voice() answers then).")
    static void promise31Parted() {
        speaks(1, A_HELD, PAYS, 20, PARTED, 13);
        speaks(1, A_HELD, PAYS, 0, PARTED, 13);
        speaks(0, A_DENT, PAYS, 20, PARTED, 21, 13);
        speaks(3, A_LOSS, PAYS, 20, PARTED, 21, 13);
        speaks(2, AN_AGAIN, PAYS, 15, PARTED, 52, 40, 10, 13);
        speaks(2, A_HELD, PAYS, 20, 20, 13);
    }

    @Says("PARTED.")
    static void promise31PartedIsCountedAndChangesOnlyTheTrace() {
        KnockTable t = kinds(0);
        t.voice(A_DENT, PAYS, 1);
        due("counted once", t.told(6), 1);
        due("an act that doesn't pay isn't PARTED", t.voice(A_DENT, HOLDS, 1), 3);
        due("still once", t.told(6), 1);
        due("and nothing else", t.told(1) + t.told(2) + t.told(3) + t.told(4) + t.told(5), 0);
    }

    @Says("VOICES of an ENTRY, with a number x (ints that wrap);")
    static void promise31IntsWrap() {
        speaks(9, A_DENT, ASKS, MAX, MIN + 8, 10);
        speaks(9, A_DENT, SHOWS, MAX, 17, 20, 11, 10);
        speaks(9, A_HELD, ASKS, MIN + 23, MAX - 31, 40, 10);
        speaks(0, A_HELD, ASKS, MIN, MIN, 40, 10);
        speaks(0, A_HELD, PAYS, MIN, MIN, 13);
        speaks(0, A_LOSS, ASKS, MAX, MAX - 2, 30, 10);
        // 41 hands MIN + 1 on; asks is MAX, shows -2 by 2, less 2, less asks(2)
        speaks(0, AN_AGAIN, HOLDS, MAX, -1 - 2 + 2, 51, 41, 12, 50, 11, 40, 10, 40, 10);
    }

    @Says("asks(..) is the BODY of its KIND, or of the next KIND above that has one;")
    static void promise31ByItsOwnKind() {
        // of a LOSS: 11, which stands at ENTRY, asks by 30; 21, at DENT, holds by 31
        speaks(5, A_LOSS, SHOWS, 1, 18 * 2 + 1, 20, 11, 30, 10);
        speaks(5, A_LOSS, PAYS, 1, (37 - 3) ^ 5, 21, 13, 31, 12, 20, 11, 30, 10);
        speaks(5, AN_AGAIN, PAYS, 0, -5, 52, 40, 10, 13);
    }

    @Says("super.asks(..) that from the KIND above the BODY's on.")
    static void promise31FromTheKindAbove() {
        // 31's super.holds is 12, as DENT has none; 52's super.pays is 13, as HELD has none
        speaks(5, A_LOSS, HOLDS, 0, (31 - 3) ^ 5, 31, 12, 20, 11, 30, 10);
        speaks(5, AN_AGAIN, PAYS, 6, -11 - 2, 52, 40, 10, 13);
    }

    @Says("VOICES of an ENTRY, with a number x (ints that wrap);")
    static void promise31AsLowAsAnError() {
        for (int k = 1; k <= 6; k++) {
            speaks(0, A_HELD, ASKS, 1000000 + k, -1000000 - k, 40, 10);
            KnockTable t = kinds(0);
            t.voice(A_HELD, ASKS, 1000000 + k);
            due("which isn't one", t.told(k), 0);
        }
    }

    @Says("BEYOND. PARTED.")
    static void promise31NoSuchEntry() {
        for (int wrong : new int[] {-1, 5, 40, MIN, MAX}) {
            beyond("entry " + wrong, t -> t.voice(wrong, 0, 0));
        }
        due("the last", Looks.some().voice(4, 0, 0), 33);
    }

    @Says("BEYOND. PARTED.")
    static void promise31NoSuchAct() {
        for (int wrong : new int[] {-1, 4, MIN, MAX}) {
            beyond("act " + wrong, t -> t.voice(0, wrong, 0));
        }
        refused("ahead of PARTED", BEYOND, () -> kinds(0), t -> t.voice(0, 4, 0));
    }

    // ---- 32: trace

    @Says({"THE TRACE's i-th.", "THE TRACE: the numbers of BODIES of the latest voice()",
        "as they began (what stands left is worked out first),"})
    static void promise32AsTheyBegan() {
        KnockTable t = kinds(9);
        t.voice(AN_AGAIN, HOLDS, 7);
        int[] due = {51, 41, 12, 50, 11, 40, 10, 40, 10};
        for (int i = 0; i < due.length; i++) {
            due("body " + i, t.trace(i), due[i]);
        }
    }

    @Says("of the latest voice()")
    static void promise32OfTheLatestOnly() {
        KnockTable t = kinds(9);
        t.voice(A_DENT, PAYS, 1);
        t.voice(A_DENT, ASKS, 1);
        due("its only one", t.trace(0), 10);
        due("nothing of the one ahead", t.trace(1), NONE);
        due("one", t.count(8), 1);
    }

    @Says("(PARTED, too),")
    static void promise32OfOneThatIsParted() {
        KnockTable t = kinds(0);
        t.voice(A_DENT, SHOWS, 1);
        t.voice(A_DENT, PAYS, 1);
        due("21", t.trace(0), 21);
        due("13", t.trace(1), 13);
        due("nothing of what would come then", t.trace(2), NONE);
    }

    @Says("one that answers an ERROR changes nothing but what told() tells, or where told.")
    static void promise32StaysIfVoiceIsBeyond() {
        KnockTable t = kinds(9);
        t.voice(A_DENT, SHOWS, 1);
        t.voice(4, SHOWS, 1);
        t.voice(A_DENT, 4, 1);
        due("three", t.count(8), 3);
        due("the first", t.trace(0), 20);
    }

    @Says("NONE: there is none such.")
    static void promise32NoneSuch() {
        refused("none yet", NONE, () -> kinds(9), t -> t.trace(0));
        for (int wrong : new int[] {-1, 9, 30, MIN, MAX}) {
            refused("i " + wrong, NONE, Looks::some, t -> t.trace(wrong));
        }
        due("the last", Looks.some().trace(8), 10);
    }

    /** No voice has more than nine BODIES, so that the thirty are never full. */
    @Says("the first 30.")
    static void promise32TheMostThereAre() {
        int most = 0;
        for (int entry = 0; entry < 4; entry++) {
            for (int act = 0; act < 4; act++) {
                KnockTable t = kinds(9);
                t.voice(entry, act, 5);
                most = Math.max(most, t.count(8));
            }
        }
        due("nine", most, 9);
    }

    public static void main(String[] args) throws ReflectiveOperationException {
        run(VoicesTest.class);
    }
}
