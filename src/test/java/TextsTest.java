/** Promises 13 to 16: THE TAPE, treaties, which is in force, what it says. */
public final class TextsTest {
    private static final Answers A = new Answers();
    private static final int MIN = Integer.MIN_VALUE;
    private static final int MAX = Integer.MAX_VALUE;

    private static void promise13Feed() {
        KnockTable t = new KnockTable();
        A.due("13: none", t.feed(0, 0), Answers.BEYOND);
        A.due("13: nine", t.feed(0, 9), Answers.BEYOND);
        A.due("13: below", t.feed(0, MIN), Answers.BEYOND);
        for (int i = 1; i <= 7; i++) {
            A.due("13: eight more", t.feed(0x2020202020202020L, 8), 8 * i);
        }
        A.due("13: five don't go", t.feed(-1, 5), Answers.FULL);
        A.due("13: beyond is ahead of full", t.feed(-1, 9), Answers.BEYOND);
        A.due("13: unchanged", t.count(6), 56);
        A.due("13: three do", t.feed(0x7FFFFFFFFF202020L, 3), 59);
        A.due("13: the sixtieth", t.feed(0x6C, 1), 60);
        A.due("13: full", t.feed(0x6C, 1), Answers.FULL);
        A.due("13: all of it is a text", t.treaty(0, 0), 0);
        A.due("13: empty then", t.count(6), 0);
        A.due("13: its value", t.says(0, 77, 0, 0, 0), 77);
        t.feed(0x31L << 56 | 0x2B2B2B2B2B2B2BL, 8);
        A.due("13: lowest first", t.treaty(0, 0), -10);
        t.feed(-7696581394432L | 0x31, 1);
        A.due("13: other bytes stay out", t.treaty(0, 0), 1);
    }

    private static void fault(int use, String text, int place) {
        KnockTable t = new KnockTable();
        A.due("14: fault of '" + text + "'", Answers.treaty(t, text, use, 0), -10 - place);
        A.due("14: no treaty", t.count(3), 0);
        A.due("14: tape", t.count(6), 0);
        A.due("14: a fault is no error", t.told(1), 0);
    }

    private static void promise14Treaty() {
        String[] early = {"", " ", "   ", "l+", "l + ", "(", "(l", "max", "max(", "max(l", "max(l,", "max(l,m", "!", "-",
            "l|", "l&", "l<", "l*", "1/ "};
        for (String text : early) {
            fault(0, text, text.length());
        }
        fault(0, ")", 0);
        fault(0, "()", 1);
        fault(0, "l)", 1);
        fault(0, "l,m", 1);
        fault(0, "(l,m)", 2);
        fault(0, "max l", 4);
        fault(0, "max(l)", 5);
        fault(0, "max(l,m,n)", 7);
        fault(0, "ma x(l,m)", 0);
        fault(0, "maxl(l,m)", 0);
        fault(0, "med(l,m)", 0);
        fault(0, "lz", 0);
        fault(0, "la", 0);
        fault(0, "l{", 1);
        fault(0, "l`", 1);
        fault(0, "1:", 1);
        fault(0, "l m", 2);
        fault(0, "1 2", 2);
        fault(0, "1l", 1);
        fault(0, "l1", 1);
        fault(0, "12345", 0);
        fault(0, "1+00001", 2);
        fault(0, "l<m<n", 3);
        fault(0, "l<m=n", 3);
        fault(0, "l=<m", 2);
        fault(0, "+l", 0);
        fault(0, "l+*m", 2);
        fault(0, "l!m", 1);
        fault(0, "l(m)", 1);
        fault(0, "L", 0);
        fault(0, "l+\tm", 2);
        fault(0, "l+\u00ff", 2);
        fault(0, "l+\u0000", 2);
        fault(0, "l+\u0080m", 2);
        fault(0, "  x", 2);
        fault(0, "r", 0);
        fault(0, "k", 0);
        fault(1, "l", 0);
        fault(1, "r+v", 2);
        fault(1, "k", 0);
        fault(2, "r", 0);
        fault(2, "e", 0);
        fault(2, "a", 0);
        fault(1, "max", 3);
        depths();
        errors();
    }

    private static void depths() {
        KnockTable t = new KnockTable();
        A.due("14: five signs", Answers.treaty(t, "!!-!!l", 0, 0), 0);
        A.due("14: five brackets", Answers.treaty(t, "(((((l)))))*(((((m)))))", 0, 0), 1);
        A.due("14: five mixed", Answers.treaty(t, "-(max(!(l),-(m)))", 0, 0), 2);
        A.due("14: signs end with their ONE", Answers.treaty(t, "!l+!l+!l+!l+!l+!l+-l--l", 0, 0), 3);
        A.due("14: five behind max", Answers.treaty(t, "max(max(max(max(max(1,2),3),4),5),6)", 0, 0), 4);
        A.due("14: five in the second", Answers.treaty(t, "min(1,min(2,min(3,min(4,-5))))", 0, 0), 5);
        fault(0, "!!!!!!l", 5);
        fault(0, "max(!!!!!l,m)", 8);
        fault(0, "max(l,!!!!!m)", 10);
        fault(0, "------l", 5);
        fault(0, "((((((l))))))", 5);
        fault(0, "(((((-l)))))", 5);
        fault(0, "l-!!!!!-l", 7);
        fault(0, "(((((max(l,m))))))", 8);
        fault(0, "(((((max (l,m))))))", 9);
        fault(0, "(((((max", 8);
        fault(0, "(((((max)", 8);
        fault(0, "-(max(!(l),-(-(m))))", 13);
        fault(0, "!!!!!(l)", 5);
    }

    private static void errors() {
        KnockTable t = new KnockTable();
        Answers.write(t, "1");
        int[][] wrong = {{-1, 0}, {3, 0}, {0, -1}, {0, 1000}, {MIN, MAX}};
        for (int[] w : wrong) {
            A.due("14: wrong", t.treaty(w[0], w[1]), Answers.BEYOND);
        }
        A.due("14: the tape stays", t.count(6), 1);
        A.due("14: a treaty", t.treaty(2, 999), 0);
        for (int i = 1; i < 10; i++) {
            A.due("14: number", Answers.treaty(t, "c", i % 3 == 0 ? 1 : 2, 0), i);
        }
        Answers.write(t, "+");
        A.due("14: full, of a wrong text too", t.treaty(0, 0), Answers.FULL);
        A.due("14: beyond is ahead of full", t.treaty(3, 0), Answers.BEYOND);
        A.due("14: the tape stays", t.count(6), 1);
        A.due("14: ten", t.count(3), 10);
    }

    private static void promise15Force() {
        KnockTable t = new KnockTable();
        Answers.treaty(t, "1", 0, 5);
        Answers.treaty(t, "2", 0, 3);
        Answers.treaty(t, "3", 1, 0);
        Answers.treaty(t, "4", 0, 999);
        A.due("15: ahead of all", t.force(0, 2), Answers.NONE);
        KnockTable one = new KnockTable();
        Answers.treaty(one, "1", 0, 5);
        A.due("15: treaty 0", one.force(0, 5), 0);
        A.due("15: treaty 0 on a later day", one.force(0, 999), 0);
        A.due("15: not on the day ahead", one.force(0, 4), Answers.NONE);
        A.due("15: from its day on", t.force(0, 3), 1);
        A.due("15: told last, though of a day ahead", t.force(0, 5), 1);
        A.due("15: told last", t.force(0, 998), 1);
        A.due("15: on its day", t.force(0, 999), 3);
        A.due("15: another use", t.force(1, 0), 2);
        A.due("15: none of it", t.force(2, 999), Answers.NONE);
        int[][] wrong = {{-1, 0}, {3, 0}, {0, -1}, {0, 1000}, {MIN, MAX}};
        for (int[] w : wrong) {
            A.due("15: wrong", t.force(w[0], w[1]), Answers.BEYOND);
        }
    }

    private static void says(String text, int due) {
        says(0, text, 7, 3, 0, -2, due);
    }

    private static void says(int use, String text, int a, int b, int c, int d, int due) {
        KnockTable t = new KnockTable();
        A.due("16: '" + text + "' is read", Answers.treaty(t, text, use, 0), 0);
        A.due("16: '" + text + "'", t.says(0, a, b, c, d), due);
    }

    private static void promise16Says() {
        says("l", 7);
        says("m", 3);
        says("n", 0);
        says("v", -2);
        says(1, "r*100+e*10+c", 1, 2, 3, 4, 123);
        says(2, "c*100+k*10+b", 1, 2, 3, 4, 123);
        says("9999", 9999);
        says("0012", 12);
        says("l-m-1", 3);
        says("l-m+1", 5);
        says("l/m*2", 4);
        says("2*l/m", 4);
        says("1+2*3", 7);
        says("(1+2)*3", 9);
        says("-l/2", -3);
        says("v/3*9", 0);
        says("l/n", 0);
        says("l/0+1", 1);
        says("-l*2", -14);
        says("2--3", 5);
        says("2- -3", 5);
        says("!l", 0);
        says("!n", 1);
        says("!n+1", 2);
        says("!!l", 1);
        says("-!n", -1);
        says("!-l", 0);
        says("l|n", 1);
        says("n|n", 0);
        says("l&v", 1);
        says("l&n", 0);
        says("n|n&l|l", 1);
        says("1|1&0", 1);
        says("(1|1)&0", 0);
        says("l<m", 0);
        says("m<l", 1);
        says("m<m", 0);
        says("l=m", 0);
        says("max(0,n|1)+min(2,l|n)", 2);
        says("max(n|1,0)+(0|n)", 1);
        says("l=7", 1);
        says("l>m", 1);
        says("m>m", 0);
        says("l>m&m>n", 1);
        says("l>m+4", 0);
        says("1+(l>m)", 2);
        says("2&1", 1);
        says("4|2", 1);
        says("max(l,m)", 7);
        says("min(l,m)", 3);
        says("max(v,-5)-min(v,-5)", 3);
        says("max(l>m|n,m)", 3);
        says(" max ( l , m ) * 2 ", 14);
        says("1 | 0 & l / 0", 1);
        wraps();
        wrong();
    }

    private static void wraps() {
        says(0, "l+1", MAX, 0, 0, 0, MIN);
        says(0, "l-1", MIN, 0, 0, 0, MAX);
        says(0, "l*l", 65536, 0, 0, 0, 0);
        says(0, "-l", MIN, 0, 0, 0, MIN);
        says(0, "l/m", MIN, -1, 0, 0, MIN);
        says(0, "l/m", MIN, 0, 0, 0, 0);
        says(0, "l<m", MIN, MAX, 0, 0, 1);
        says(0, "l>m", MIN, MAX, 0, 0, 0);
        says(0, "9999*9999*9999", 0, 0, 0, 0, 9999 * 9999 * 9999);
        says(0, "-l", 1000001, 0, 0, 0, Answers.BEYOND);
    }

    private static void wrong() {
        KnockTable t = new KnockTable();
        A.due("16: none", t.says(0, 0, 0, 0, 0), Answers.BEYOND);
        Answers.treaty(t, "0-l", 0, 0);
        A.due("16: below", t.says(-1, 0, 0, 0, 0), Answers.BEYOND);
        A.due("16: above", t.says(1, 0, 0, 0, 0), Answers.BEYOND);
        A.due("16: as low as an error", t.says(0, 1000001, 0, 0, 0), Answers.BEYOND);
        A.due("16: which isn't one", t.told(1), 3);
    }

    public static void main(String[] args) {
        promise13Feed();
        promise14Treaty();
        promise15Force();
        promise16Says();
        A.end("TextsTest");
    }
}
