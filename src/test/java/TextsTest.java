/** Promises 13 to 16, and what the terms say of them: THE TAPE, treaties, which is in force, what it says. */
public final class TextsTest extends Answers {
    private static final int TABLE = 0;
    private static final int BACK = 1;
    private static final int OPEN = 2;

    // ---- 13: feed

    private static KnockTable tape(int bytes) {
        KnockTable t = new KnockTable();
        write(t, "0".repeat(bytes));
        return t;
    }

    @Says("come to THE TAPE: how many there are.")
    static void promise13HowManyThereAre() {
        KnockTable t = new KnockTable();
        int there = 0;
        for (int n : new int[] {1, 8, 2, 7, 3, 6, 4, 5}) {
            there += n;
            due("after " + n + " more", t.feed(0x2020202020202020L, n), there);
            due("counted", t.count(6), there);
        }
    }

    @Says({"The n lowest bytes (1 .. 8) of a word,", "the lowest first,"})
    static void promise13LowestBytesFirst() {
        KnockTable t = new KnockTable();
        t.feed(0x3837363534333231L, 4);
        t.feed(0x302D, 2);
        due("1234-0", t.treaty(TABLE, 0), 0);
        due("its value", t.says(0, 0, 0, 0, 0), 1234);
        t.feed(0x31302A32302A332BL, 8);
        due("+ is first", t.treaty(TABLE, 0), -10);
    }

    @Says("The n lowest bytes (1 .. 8) of a word,")
    static void promise13OtherBytesStayOut() {
        KnockTable t = new KnockTable();
        due("one of a word of many", t.feed(-256L | '7', 1), 1);
        due("the text", t.treaty(TABLE, 0), 0);
        due("its value", t.says(0, 0, 0, 0, 0), 7);
        due("seven of a word of eight", t.feed(0xFF30303030303035L, 7), 7);
        due("too many digits are the FAULT, not the eighth byte", t.treaty(TABLE, 0), -10);
    }

    @Says("The n lowest bytes (1 .. 8) of a word,")
    static void promise13TheHighestByte() {
        KnockTable t = new KnockTable();
        t.feed((long) 'l' << 56 | 0x20202020202020L, 8);
        due("its letter is read", t.treaty(TABLE, 0), 0);
        due("its value", t.says(0, 55, 0, 0, 0), 55);
        t.feed(0xEC20202020202020L, 8);
        due("a byte has no sign, and isn't cut", t.treaty(TABLE, 0), -17);
    }

    @Says({"The n lowest bytes (1 .. 8) of a word,", "BEYOND."})
    static void promise13HowMany() {
        due("one", new KnockTable().feed(0, 1), 1);
        due("eight", new KnockTable().feed(0, 8), 8);
        for (int wrong : new int[] {0, -1, 9, MIN, MAX}) {
            beyond("n " + wrong, t -> t.feed(0, wrong));
        }
    }

    @Says({"FULL.", "THE TAPE (bytes, at most 60)"})
    static void promise13Full() {
        due("up to 60, by one", tape(59).feed('0', 1), 60);
        due("up to 60, by eight", tape(52).feed(0x3030303030303030L, 8), 60);
        refused("a 61st", FULL, () -> tape(60), t -> t.feed('0', 1));
        refused("from 53 on eight more", FULL, () -> tape(53), t -> t.feed('0', 8));
        refused("from 59 on two more", FULL, () -> tape(59), t -> t.feed('0', 2));
        KnockTable t = new KnockTable();
        write(t, " ".repeat(53));
        t.feed(0x3737373737373737L, 8);
        t.feed(0x6C20202020202020L, 7);
        due("nothing of what was refused came", t.treaty(TABLE, 0), -70);
    }

    @Says({"BEYOND. FULL.", "Each act tells its ERRORS in the order in which they are asked;"})
    static void promise13BeyondIsAskedAheadOfFull() {
        refused("nine", BEYOND, () -> tape(60), t -> t.feed(0, 9));
        refused("none", BEYOND, () -> tape(60), t -> t.feed(0, 0));
    }

    // ---- 14: treaty

    private static KnockTable treaties(int n) {
        KnockTable t = new KnockTable();
        for (int i = 0; i < n; i++) {
            treaty(t, Integer.toString(i), i % 3, 100 * i);
        }
        return t;
    }

    @Says({"THE TAPE, which is empty then, is a TREATY of a USE from a DAY on: its number;", "TREATIES 0, 1, .. (at most 10)"})
    static void promise14NumbersFrom0On() {
        KnockTable t = new KnockTable();
        for (int i = 0; i < 10; i++) {
            due("number", treaty(t, Integer.toString(i), i % 3, 0), i);
            due("THE TAPE is empty", t.count(6), 0);
            due("how many", t.count(3), i + 1);
        }
        for (int i = 0; i < 10; i++) {
            due("its TEXT", t.says(i, 0, 0, 0, 0), i);
        }
    }

    @Says({"BEYOND, FULL (THE TAPE stays in both).", "are TEXTS of a USE, from a DAY on;"})
    static void promise14Use() {
        for (int wrong : new int[] {-1, 3, MIN, MAX}) {
            beyond("use " + wrong, t -> t.treaty(wrong, 0));
        }
        due("the last", treaty(new KnockTable(), "c+k", 2, 0), 0);
    }

    @Says({"BEYOND, FULL (THE TAPE stays in both).", "DAYS are 0 .. 999."})
    static void promise14Day() {
        for (int wrong : new int[] {-1, 1000, MIN, MAX}) {
            beyond("day " + wrong, t -> t.treaty(0, wrong));
        }
        due("the first", treaty(new KnockTable(), "1", 0, 0), 0);
        due("the last", treaty(new KnockTable(), "1", 0, 999), 0);
    }

    @Says("BEYOND, FULL (THE TAPE stays in both).")
    static void promise14TheTapeStaysIfBeyond() {
        KnockTable t = new KnockTable();
        write(t, "12");
        t.treaty(3, 0);
        t.treaty(0, 1000);
        due("two bytes", t.count(6), 2);
        write(t, "34");
        due("then a TREATY of all", t.treaty(0, 0), 0);
        due("1234", t.says(0, 0, 0, 0, 0), 1234);
    }

    private static KnockTable tenAndTape(String text) {
        KnockTable t = treaties(10);
        write(t, text);
        return t;
    }

    @Says({"BEYOND, FULL (THE TAPE stays in both).", "TREATIES 0, 1, .. (at most 10)"})
    static void promise14Full() {
        due("a tenth", treaty(treaties(9), "1", 0, 0), 9);
        refused("an eleventh", FULL, () -> tenAndTape("12"), t -> t.treaty(0, 0));
        refused("an eleventh with a FAULT", FULL, () -> tenAndTape("+"), t -> t.treaty(0, 0));
        refused("an eleventh of nothing", FULL, () -> tenAndTape(""), t -> t.treaty(0, 0));
        KnockTable t = tenAndTape("12");
        t.treaty(0, 0);
        due("THE TAPE stays", t.count(6), 2);
    }

    @Says({"BEYOND, FULL (THE TAPE stays in both).", "Each act tells its ERRORS in the order in which they are asked;"})
    static void promise14BeyondIsAskedAheadOfFull() {
        refused("use", BEYOND, () -> tenAndTape("12"), t -> t.treaty(3, 0));
        refused("day", BEYOND, () -> tenAndTape("12"), t -> t.treaty(0, 1000));
    }

    private static void fault(int use, String text, int place) {
        KnockTable t = new KnockTable();
        due("'" + text + "'", treaty(t, text, use, 0), -10 - place);
        due("'" + text + "' is no TREATY", t.count(3), 0);
        due("THE TAPE is empty after '" + text + "'", t.count(6), 0);
        for (int k = 1; k <= 6; k++) {
            due("a FAULT is no ERROR", t.told(k), 0);
        }
    }

    private static void fault(String text, int place) {
        fault(TABLE, text, place);
    }

    private static void early(String text) {
        fault(text, text.length());
    }

    private static void good(String text) {
        due("'" + text + "'", treaty(new KnockTable(), text, TABLE, 0), 0);
    }

    @Says("-10 less its FAULT.")
    static void promise14AFaultChangesNoOtherTreaty() {
        KnockTable t = treaties(2);
        due("a FAULT", treaty(t, "1+2+*", TABLE, 0), -14);
        due("the one ahead", t.says(1, 0, 0, 0, 0), 1);
        due("in force", t.force(TABLE, 999), 0);
        due("the next", treaty(t, "5", TABLE, 0), 2);
        due("its value", t.says(2, 0, 0, 0, 0), 5);
    }

    @Says("THE TAPE, which is empty then,")
    static void promise14NothingIsLeftOfAnEarlierText() {
        KnockTable t = new KnockTable();
        treaty(t, "lll", TABLE, 0);
        due("a word ends where THE TAPE ends", treaty(t, "l", TABLE, 0), 0);
        treaty(t, "123", TABLE, 0);
        due("a number, too", treaty(t, "4", TABLE, 0), 2);
        due("4", t.says(2, 0, 0, 0, 0), 4);
        treaty(t, "1" + "+1".repeat(29) + "+", TABLE, 0);
        treaty(t, "2" + "+2".repeat(29), TABLE, 0);
        due("a long one behind a long FAULT", t.says(3, 0, 0, 0, 0), 60);
    }

    @Says("how many bytes there are, if it ends too early.")
    static void promise14AnEmptyTape() {
        early("");
        early(" ");
        early("   ");
        early(" ".repeat(60));
    }

    @Says("how many bytes there are, if it ends too early.")
    static void promise14EndsTooEarly() {
        for (String text : new String[] {"l+", "l + ", "l|", "l&", "l<", "l=", "l>", "l-", "l*", "1/ ", "!", "-", "--", "!-! "}) {
            early(text);
        }
        for (String text : new String[] {"(", "(l", "((l)", "(l|", "max", "min ", "max(", "max(l", "max(l,", "max(l,m", "min(l,m "}) {
            early(text);
        }
        early("1" + "+1".repeat(29) + "+");
    }

    @Says("or other byte with which no TEXT goes on;")
    static void promise14FaultOfAnotherByte() {
        fault(")", 0);
        fault("()", 1);
        fault("l)", 1);
        fault("(l))", 3);
        fault("l,m", 1);
        fault("(l,m)", 2);
        fault("max(l)", 5);
        fault("max(l,m,n)", 7);
        fault("max,", 3);
        fault("+l", 0);
        fault("*l", 0);
        fault("|l", 0);
        fault("=l", 0);
        fault("l+*m", 2);
        fault("l=<m", 2);
        fault("l||m", 2);
        fault("l&&m", 2);
        fault("l!m", 1);
        fault("l(m)", 1);
        fault("1(m)", 1);
        fault("(l)(m)", 3);
        fault("1.5", 1);
        fault("1" + "+1".repeat(28) + "++1", 58);
        fault("1" + "+1".repeat(29) + ")", 59);
    }

    @Says({"FAULT: the place of the first byte of the first word (letters a to z as far as they go),",
        "number (digits as far as they go) or other byte"})
    static void promise14BytesThatAreNoLettersOrDigits() {
        fault("L", 0);
        fault("lM", 1);
        fault("l{", 1);
        fault("l`", 1);
        fault("1:", 1);
        fault("1?", 1);
        fault("l+\t", 2);
        fault("l\n", 1);
        fault("l+\u0000", 2);
        fault("l\u0000", 1);
        fault("\u0000", 0);
        fault("l\u00ff", 1);
        fault("l+\u001f", 2);
        fault("l+\u007f", 2);
        fault("l+\u0080m", 2);
        fault("l\u00a0", 1);
        fault("l+\u00ff", 2);
        fault("l+\u00ec", 2);
    }

    @Says("FAULT: the place of the first byte of the first word (letters a to z as far as they go),")
    static void promise14FaultOfAWord() {
        fault("x", 0);
        fault("  x", 2);
        fault("l+xyz", 2);
        fault("lm", 0);
        fault("lz", 0);
        fault("la", 0);
        fault("mal(l,m)", 0);
        fault("maxl(l,m)", 0);
        fault("ma(l,m)", 0);
        fault("med(l,m)", 0);
        fault("mix(l,m)", 0);
        fault("man(l,m)", 0);
        fault("lax(l,m)", 0);
        fault("lin(l,m)", 0);
        fault("maz(l,m)", 0);
        fault("mim(l,m)", 0);
        fault("l m", 2);
        fault("1l", 1);
        fault("l max(1,2)", 2);
        fault("max l", 4);
        fault("max max(1,2)", 4);
    }

    @Says({"number (digits as far as they go)", "a NUMBER of 1 to 4 digits,"})
    static void promise14FaultOfANumber() {
        good("0");
        good("9999");
        good("0000");
        fault("12345", 0);
        fault("00000", 0);
        fault("1+00001", 2);
        fault("1+123456789", 2);
        fault("1 2", 2);
        fault("l1", 1);
        fault("l 1", 2);
        fault("(l)1", 3);
        fault("max 1", 4);
    }

    @Says("Between words, numbers and signs there may be blanks (32),")
    static void promise14BlanksBetween() {
        good("max(l,m)+!-1*(2)<3");
        good("max ( l , m ) + ! - 1 * ( 2 ) < 3");
        good("   max   (l   ,m)");
        good("  1  ");
        good("1" + " ".repeat(59));
        good(" ".repeat(59) + "1");
    }

    @Says("but none within a word or number.")
    static void promise14NoBlanksWithin() {
        fault("ma x(l,m)", 0);
        fault("m ax(l,m)", 2);
        fault("mi n(l,m)", 0);
        fault("1 2", 2);
        fault("12 34+1", 3);
    }

    @Says({"IS: SUM, or SUM, one of < = >, SUM.", "T: OR. OR: AND { | AND }. AND: IS { & IS }."})
    static void promise14OneComparisonAtMost() {
        good("l<m&m<n|n=v&v>1");
        good("(l<m)<n");
        good("l<(m=n)");
        fault("l<m<n", 3);
        fault("l<m=n", 3);
        fault("l=m>n", 3);
        fault("(l>m>n)", 4);
        fault("max(l,m=1=1)", 9);
    }

    @Says({"USES, with NAMES of one letter (others are the FAULT):", "a NAME,"})
    static void promise14NamesOfEachUse() {
        String[] names = {"lmnv", "rec", "ckb"};
        for (int use = 0; use < 3; use++) {
            for (char name = 'a'; name <= 'z'; name++) {
                if (names[use].indexOf(name) >= 0) {
                    due(name + " of USE " + use, treaty(new KnockTable(), "1+" + name, use, 0), 0);
                } else {
                    fault(use, "1+" + name, 2);
                }
            }
        }
        fault(BACK, "r+v", 2);
        fault(OPEN, "kk", 0);
        due("max in each USE", treaty(new KnockTable(), "max(1,min(2,3))", BACK, 0), 0);
        due("min in each USE", treaty(new KnockTable(), "max(1,min(2,3))", OPEN, 0), 0);
    }

    @Says("At most 5 of !, - (ahead of a ONE) and (")
    static void promise14FiveOpenAtOnce() {
        good("!!!!!l");
        good("-----l");
        good("(((((l)))))");
        good("!-!(-l)");
        good("-(max(!(l),-(m)))");
        fault("!!!!!!l", 5);
        fault("------l", 5);
        fault("((((((l))))))", 5);
        fault("(((((-l)))))", 5);
        fault("(((((!l)))))", 5);
        fault("!!!!!(l)", 5);
        fault("-----(l)", 5);
        fault("(((((l+(m))))))", 7);
        fault("-(max(!(l),-(-(m))))", 13);
        fault(" ! ! ! ! ! ! l", 11);
    }

    @Says("are open at once.")
    static void promise14WhatIsClosedIsNotOpen() {
        good("(((((l)))))*(((((m)))))");
        good("!!!!!l+!!!!!l-(((((l)))))");
        good("!l+!l+!l+!l+!l+!l+-l--l");
        good("(((((l))))+(((m))))");
        good("max(!!!!l,!!!!l)");
        good("l-l-l-l-l-l-l-l");
    }

    @Says("- (ahead of a ONE)")
    static void promise14AMinusBetweenTermsOpensNothing() {
        good("(((((1-2)))))");
        good("!!!!!1-2");
        fault("l-!!!!!-l", 7);
        fault("(((((1--2)))))", 7);
    }

    @Says("(those behind max and min, too; the FAULT is at the ( then)")
    static void promise14BracketsBehindMaxAndMin() {
        good("max(max(max(max(max(1,2),3),4),5),6)");
        good("min(1,min(2,min(3,min(4,-5))))");
        fault("min(1,min(2,min(3,min(4,min(5,min(6,7))))))", 33);
        fault("(((((max(l,m))))))", 8);
        fault("(((((min (l,m))))))", 9);
        fault("!!!!!max(l,m)", 8);
        fault("max(!!!!!l,m)", 8);
        fault("max(l,!!!!!m)", 10);
        early("(((((max");
        fault("(((((max)", 8);
        fault("(((((maxx(", 5);
    }

    @Says("TEXTS are read from THE TAPE (bytes, at most 60):")
    static void promise14SixtyBytes() {
        String longest = "1" + "+1".repeat(29) + " ";
        due("sixty bytes", longest.length(), 60);
        KnockTable t = new KnockTable();
        due("all of them are read", treaty(t, longest, TABLE, 0), 0);
        due("and added", t.says(0, 0, 0, 0, 0), 30);
        String allSigns = "!!1" + "+!1".repeat(19);
        due("sixty bytes, each a word", allSigns.length(), 60);
        due("all of them are read", treaty(t, allSigns, TABLE, 0), 1);
        due("and added", t.says(1, 0, 0, 0, 0), 1);
        String deep = "1|1&1<1+1*(".repeat(4) + "1|1&1<1+1*1" + ")".repeat(4);
        due("a deep one", treaty(t, deep, TABLE, 0), 2);
        due("its value", t.says(2, 0, 0, 0, 0), 1);
        fault(deep + ")", 59);
    }

    // ---- 15: force

    /** Uses 0, 0, 1, 0 from days 5, 3, 0, 999 on. */
    private static KnockTable four() {
        KnockTable t = new KnockTable();
        treaty(t, "1", 0, 5);
        treaty(t, "2", 0, 3);
        treaty(t, "3", 1, 0);
        treaty(t, "4", 0, 999);
        return t;
    }

    @Says({"The TREATY of a USE in force on a DAY.", "in force on a DAY is that told last of its USE for it or a DAY ahead."})
    static void promise15ToldLastForItOrADayAhead() {
        KnockTable t = four();
        due("on its DAY", t.force(0, 3), 1);
        due("behind it", t.force(0, 4), 1);
        due("told last, though from a lesser DAY on", t.force(0, 5), 1);
        due("the day ahead of another's", t.force(0, 998), 1);
        due("on the last DAY", t.force(0, 999), 3);
        due("of another USE", t.force(1, 0), 2);
        treaty(t, "5", 0, 5);
        treaty(t, "6", 0, 5);
        due("two of one DAY", t.force(0, 5), 5);
        due("not ahead of it", t.force(0, 4), 1);
    }

    @Says("NONE.")
    static void promise15NoneInForce() {
        refused("ahead of all", NONE, TextsTest::four, t -> t.force(0, 2));
        refused("none of that USE", NONE, TextsTest::four, t -> t.force(2, 999));
        refused("none at all", NONE, KnockTable::new, t -> t.force(0, 999));
        KnockTable t = new KnockTable();
        treaty(t, "1", 2, 5);
        due("on the DAY ahead", t.force(2, 4), NONE);
        due("TREATY 0 on its DAY", t.force(2, 5), 0);
        due("TREATY 0 on the last DAY", t.force(2, 999), 0);
    }

    @Says("BEYOND.")
    static void promise15NoSuchUse() {
        for (int wrong : new int[] {-1, 3, MIN, MAX}) {
            beyond("use " + wrong, t -> t.force(wrong, 999));
        }
    }

    @Says({"BEYOND. NONE.", "Each act tells its ERRORS in the order in which they are asked;"})
    static void promise15NoSuchDay() {
        for (int wrong : new int[] {-1, 1000, MIN, MAX}) {
            beyond("day " + wrong, t -> t.force(0, wrong));
            refused("day " + wrong + " ahead of NONE", BEYOND, KnockTable::new, t -> t.force(0, wrong));
        }
    }

    // ---- 16: says

    /** With l 7, m 3, n 0, v -2. */
    private static void says(String text, int due) {
        says(TABLE, text, 7, 3, 0, -2, due);
    }

    private static void says(int use, String text, int a, int b, int c, int d, int due) {
        KnockTable t = new KnockTable();
        due("'" + text + "' is read", treaty(t, text, use, 0), 0);
        due("'" + text + "'", t.says(0, a, b, c, d), due);
    }

    @Says({"What a TREATY comes to with its NAMES in order (the fourth is for TABLE alone);",
        "2 OPEN, whether a claim in a book is disputed: c what it says, k CLAIM, b BOUND."})
    static void promise16NamesInOrder() {
        says(TABLE, "l*1000+m*100+n*10+v", 1, 2, 3, 4, 1234);
        says(BACK, "r*100+e*10+c", 1, 2, 3, 4, 123);
        says(OPEN, "c*100+k*10+b", 1, 2, 3, 4, 123);
        says(TABLE, "v", MIN, MAX, 0, -1, -1);
        says(BACK, "c", 0, 0, MIN, 0, MIN);
        KnockTable t = new KnockTable();
        treaty(t, "l", TABLE, 0);
        treaty(t, "m", TABLE, 0);
        due("the first of two", t.says(0, 5, 6, 0, 0), 5);
        due("the second of two", t.says(1, 5, 6, 0, 0), 6);
    }

    @Says("ONE: a NUMBER of 1 to 4 digits,")
    static void promise16Numbers() {
        says("0", 0);
        says("9", 9);
        says("10", 10);
        says("9999", 9999);
        says("0012", 12);
        says("0000", 0);
    }

    @Says({"SUM: TERM { + TERM, - TERM }.", "TERM: ONE { * ONE, / ONE }."})
    static void promise16SumsAndTermsFromTheLeft() {
        says("l-m-1", 3);
        says("l-m+1", 5);
        says("l-(m+1)", 3);
        says("l/m*2", 4);
        says("2*l/m", 4);
        says("l/(m*2)", 1);
        says("1+2*3", 7);
        says("2*3+1", 7);
        says("(1+2)*3", 9);
        says("l-m*2", 1);
        says("100/7/2", 7);
    }

    @Says({"! ONE, - ONE, ( T ),", "At most 5 of !, - (ahead of a ONE)"})
    static void promise16SignsAheadOfAOne() {
        says("-l", -7);
        says("-l*2", -14);
        says("-l+10", 3);
        says("2--3", 5);
        says("2- -3", 5);
        says("2*-3", -6);
        says("--l", 7);
        says("-!n", -1);
        says("!-l", 0);
        says("!n+1", 2);
        says("!n*5", 5);
        says("!(n+1)", 0);
    }

    @Says("max ( T , T ), min ( T , T ).")
    static void promise16MaxAndMin() {
        says("max(l,m)", 7);
        says("max(m,l)", 7);
        says("min(l,m)", 3);
        says("min(m,l)", 3);
        says("max(v,-5)-min(v,-5)", 3);
        says("max(l,l)+min(m,m)", 10);
        says("max(l>m|n,m)", 3);
        says("max(0,n|1)+min(2,l|n)", 2);
        says(TABLE, "max(l,m)", MIN, MAX, 0, 0, MAX);
        says(TABLE, "min(l,m)", MIN, MAX, 0, 0, MIN);
    }

    @Says("| & ! < = > are 1 or 0, what is not 0 being true;")
    static void promise16TrueAndFalse() {
        says("l|n", 1);
        says("n|l", 1);
        says("n|n", 0);
        says("4|2", 1);
        says("l&v", 1);
        says("l&n", 0);
        says("n&l", 0);
        says("2&1", 1);
        says("!l", 0);
        says("!v", 0);
        says("!n", 1);
        says("!!l", 1);
        says("l<m", 0);
        says("m<l", 1);
        says("m<m", 0);
        says("l=m", 0);
        says("l=7", 1);
        says("l>m", 1);
        says("m>l", 0);
        says("m>m", 0);
        says("v<n", 1);
    }

    @Says({"T: OR. OR: AND { | AND }. AND: IS { & IS }.", "IS: SUM, or SUM, one of < = >, SUM."})
    static void promise16WhatBindsCloser() {
        says("1|1&0", 1);
        says("(1|1)&0", 0);
        says("0&0|1", 1);
        says("n|n&l|l", 1);
        says("l>m&m>n", 1);
        says("1&2=2", 1);
        says("l>m+4", 0);
        says("l=m+4", 1);
        says("1+(l>m)", 2);
        says("2<1+2", 1);
        says("1|l=2", 1);
    }

    @Says("/ by 0 is 0;")
    static void promise16ByNothing() {
        says("l/n", 0);
        says("l/0+1", 1);
        says("0/0", 0);
        says(TABLE, "l/m", MIN, 0, 0, 0, 0);
    }

    @Says("Quotients are cut toward 0.")
    static void promise16QuotientsAreCutToward0() {
        says("7/2", 3);
        says("-l/2", -3);
        says("l/v", -3);
        says("-l/v", 3);
        says("v/3", 0);
        says("v/3*9", 0);
    }

    @Says({"all is worked out.", "Ints that wrap;"})
    static void promise16AllIsWorkedOut() {
        says("1 | l / 0", 1);
        says("0 & l / 0", 0);
        says("max(1, l/0)", 1);
    }

    @Says("Ints that wrap;")
    static void promise16IntsWrap() {
        says(TABLE, "l+1", MAX, 0, 0, 0, MIN);
        says(TABLE, "l-1", MIN, 0, 0, 0, MAX);
        says(TABLE, "l*l", 65536, 0, 0, 0, 0);
        says(TABLE, "l*2", MAX, 0, 0, 0, -2);
        says(TABLE, "-l", MIN, 0, 0, 0, MIN);
        says(TABLE, "l/m", MIN, -1, 0, 0, MIN);
        says(TABLE, "0-l", MIN, 0, 0, 0, MIN);
        says(TABLE, "9999*9999*9999", 0, 0, 0, 0, 9999 * 9999 * 9999);
    }

    @Says("| & ! < = > are 1 or 0,")
    static void promise16ComparisonsDoNotWrap() {
        says(TABLE, "l<m", MIN, MAX, 0, 0, 1);
        says(TABLE, "l>m", MIN, MAX, 0, 0, 0);
        says(TABLE, "l>m", MAX, MIN, 0, 0, 1);
        says(TABLE, "l&m", 65536, 65536, 0, 0, 1);
        says(TABLE, "l|m", MIN, MIN, 0, 0, 1);
    }

    @Says("an answer may be as low as an ERROR.")
    static void promise16AsLowAsAnError() {
        KnockTable t = new KnockTable();
        treaty(t, "-l", TABLE, 0);
        for (int k = 1; k <= 6; k++) {
            due("LOW - " + k, t.says(0, 1000000 + k, 0, 0, 0), -1000000 - k);
            due("which isn't one", t.told(k), 0);
        }
    }

    @Says("BEYOND.")
    static void promise16NoSuchTreaty() {
        for (int wrong : new int[] {-1, 2, 10, MIN, MAX}) {
            beyond("treaty " + wrong, t -> t.says(wrong, 0, 0, 0, 0));
        }
        refused("of none", BEYOND, KnockTable::new, t -> t.says(0, 0, 0, 0, 0));
        refused("of ten", BEYOND, () -> treaties(10), t -> t.says(10, 0, 0, 0, 0));
        due("the tenth", treaties(10).says(9, 0, 0, 0, 0), 9);
    }

    public static void main(String[] args) throws ReflectiveOperationException {
        run(TextsTest.class);
    }
}
