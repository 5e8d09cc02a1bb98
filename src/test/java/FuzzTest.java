import java.lang.reflect.Method;
import java.util.ArrayList;
import java.util.HashMap;
import java.util.List;
import java.util.Map;
import java.util.Random;

/** Long runs of calls, good and bad ones mixed, on the class and on Model: all answers must be alike. */
public final class FuzzTest {
    private static final int RUNS = 1500;
    private static final int CALLS = 512;
    private static final String[] SIGNS = {"|", "&", "<", "=", ">", "+", "-", "*", "/"};
    private static final String[] NAMES = {"lmnv", "rec", "ckb"};

    private final Random r;
    private final Map<String, Method> acts = new HashMap<>();
    private final KnockTable real = new KnockTable();
    private final Model model = new Model();
    private final List<String> log = new ArrayList<>();
    private int left = CALLS;
    private boolean failed;

    private FuzzTest(long seed) {
        r = new Random(seed);
        for (Method m : KnockTable.class.getDeclaredMethods()) {
            if (java.lang.reflect.Modifier.isPublic(m.getModifiers())) {
                acts.put(m.getName(), m);
            }
        }
    }

    private int call(String name, long... a) {
        if (left <= 0 || failed) {
            return 0;
        }
        left--;
        Method m = acts.get(name);
        Class<?>[] types = m.getParameterTypes();
        Object[] boxed = new Object[a.length];
        for (int i = 0; i < a.length; i++) {
            boxed[i] = types[i] == long.class ? (Object) a[i] : (Object) (int) a[i];
        }
        int want = model.call(name, a);
        int got;
        try {
            got = (Integer) m.invoke(real, boxed);
        } catch (ReflectiveOperationException e) {
            log.add(name + java.util.Arrays.toString(a) + " threw " + e.getCause());
            failed = true;
            return 0;
        }
        log.add(name + java.util.Arrays.toString(a) + " = " + got);
        if (got != want) {
            log.add("  due is " + want);
            failed = true;
        }
        return got;
    }

    /** Mostly within, at times at or just beyond an edge, seldom anywhere. */
    private int v(int lo, int hi) {
        int k = r.nextInt(60);
        if (k == 0) {
            return lo - 1;
        }
        if (k == 1) {
            return hi + 1;
        }
        if (k == 2) {
            int[] wild = {Integer.MIN_VALUE, Integer.MAX_VALUE, -1, r.nextInt()};
            return wild[r.nextInt(4)];
        }
        if (k == 3 || hi < lo) {
            return lo;
        }
        if (k == 4) {
            return hi;
        }
        return lo + r.nextInt(hi - lo + 1);
    }

    private int zones() {
        return r.nextInt(4) == 0 ? v(0, 65535) : r.nextInt(4) * 256 + r.nextInt(4);
    }

    private int n(int what) {
        return real.count(what);
    }

    private String text(int use, int depth) {
        int k = r.nextInt(depth > 3 ? 3 : 10);
        String blank = r.nextInt(4) == 0 ? " " : "";
        switch (k) {
            case 0: return Integer.toString(r.nextInt(r.nextBoolean() ? 10 : 10000)) + blank;
            case 1: case 2: return blank + NAMES[use].charAt(r.nextInt(NAMES[use].length()));
            case 3: return "!" + blank + text(use, depth + 1);
            case 4: return "-" + text(use, depth + 1);
            case 5: return "(" + text(use, depth + 1) + blank + ")";
            case 6: return (r.nextBoolean() ? "max" : "min") + blank + "(" + text(use, depth + 1) + "," + text(use, depth + 1) + ")";
            default: return text(use, depth + 1) + SIGNS[r.nextInt(9)] + blank + text(use, depth + 1);
        }
    }

    private String spoiled(String text) {
        String junk = "lmnvreckbax ()!-+*/|&<=>,0159\t\u00e9A";
        StringBuilder b = new StringBuilder(text);
        for (int k = r.nextInt(3); k >= 0; k--) {
            char c = junk.charAt(r.nextInt(junk.length()));
            int at = r.nextInt(b.length() + 1);
            if (r.nextBoolean() || at == b.length()) {
                b.insert(at, c);
            } else if (r.nextBoolean()) {
                b.setCharAt(at, c);
            } else {
                b.deleteCharAt(at);
            }
        }
        return b.toString();
    }

    private void treaty() {
        if (n(3) == 10 && r.nextInt(8) != 0) {
            return;
        }
        int use = r.nextInt(3);
        String text = text(use, 0);
        if (r.nextInt(3) == 0) {
            text = spoiled(text);
        }
        if (text.length() > 60 && r.nextInt(20) != 0) {
            return;
        }
        for (int at = 0; at < text.length(); ) {
            int n = Math.min(1 + r.nextInt(8), text.length() - at);
            long word = r.nextLong();
            for (int i = n - 1; i >= 0; i--) {
                word = word << 8 | text.charAt(at + i);
            }
            call("feed", word, n);
            at += n;
        }
        call("treaty", r.nextInt(30) == 0 ? v(0, 2) : use, r.nextBoolean() ? r.nextInt(10) : v(0, 999));
    }

    private void make(int k) {
        switch (k % 12) {
            case 0: call("car", v(0, 10), v(1, r.nextBoolean() ? 99999 : 3000), v(0, 20999), r.nextInt(3) == 0 ? v(0, 255) : r.nextInt(4)); break;
            case 1: call("shape", zones(), zones(), v(0, 100)); break;
            case 2: case 3: case 4:
                call("crash", 100L * v(0, n(0) - 1) + v(0, n(0) - 1), r.nextBoolean() ? r.nextInt(2000) : v(0, 99999), zones()); break;
            case 5: case 6: case 7:
                call("enter", v(0, n(2) - 1), v(0, 1), r.nextInt(4) == 0 ? v(0, 999999) : r.nextInt(5) * 10,
                        r.nextInt(3) == 0 ? v(0, 33999) : r.nextInt(2) * 1000 + r.nextInt(40)); break;
            case 8: call("mark", v(0, n(0) - 1), v(0, 2), r.nextInt(3) == 0 ? v(-1, 99) : r.nextInt(4) - 1); break;
            case 9: call("tells", v(0, n(2) - 1), v(0, 1), v(0, (1 << n(1)) - 1)); break;
            case 10: {
                int what = v(0, 2);
                call("zone", v(0, 7), what, v(0, what == 0 ? 9999 : what == 1 ? 99 : 60));
                break;
            }
            default: {
                int what = v(0, 6);
                call("rate", what, v(0, what >= 0 && what < 7 ? new int[] {99, 50, 100, 100, 99, 9999, 50}[what] : 5));
                break;
            }
        }
    }

    private void ask(int k) {
        switch (k % 21) {
            case 0: call("carIs", v(0, n(0) - 1), v(0, 8)); break;
            case 1: case 2: call("crashIs", v(0, n(2) - 1), v(0, 10)); break;
            case 3: case 4: call("worth", v(0, n(2) - 1), v(0, 1), v(0, 5)); break;
            case 5: call("back", v(0, n(2) - 1), v(0, 1), r.nextBoolean() ? v(0, 999999) : r.nextInt(1500)); break;
            case 6: call("force", v(0, 2), v(0, r.nextBoolean() ? 999 : 9)); break;
            case 7: call("says", v(0, n(3) - 1), r.nextInt(), v(-9, 9), v(-9, 9), v(0, 99)); break;
            case 8: call("entryIs", v(0, n(4) - 1), v(0, 7)); break;
            case 9: call("as", v(0, n(4) - 1), v(0, 4)); break;
            case 10: call("late", v(0, n(4) - 1), v(0, 999)); break;
            case 11: call("position", v(0, 10), r.nextInt(4) == 0 ? v(0, 33) : r.nextInt(2)); break;
            case 12: call("held", r.nextInt(4) == 0 ? v(0, 33) : r.nextInt(2)); break;
            case 13: call("payments", r.nextInt(4) == 0 ? v(0, 33) : r.nextInt(2)); break;
            case 14: call("panel", v(0, n(2) - 1)); break;
            case 15: call("like", v(0, n(2) - 1), v(0, n(2) - 2), v(0, 1)); break;
            case 16: call("ring", v(0, n(2) - 1)); break;
            case 17: call("rings", v(1, 20)); call("rings", 1 + r.nextInt(4)); break;
            case 18: call("core"); break;
            case 19:
                call("voice", v(0, n(4) - 1), v(0, 3), r.nextBoolean() ? r.nextInt() : v(-50, 50));
                for (int i = r.nextInt(12); i >= 0; i -= 3) {
                    call("trace", i);
                }
                break;
            default: call("count", v(0, 8)); call("told", v(1, 6)); break;
        }
    }

    private void pages(int k) {
        int[] bits = {0, 8, 16, 32, 8, 8, 9};
        switch (k % 12) {
            case 0: call("sheet", v(0, 3), bits[r.nextInt(bits.length)], v(0, r.nextBoolean() ? 24 : 12)); break;
            case 1: call("sheet", v(0, 3), 8, 2 * (1 + r.nextInt(6))); break;
            case 2: case 3: case 4: case 5: call("put", v(0, 3), v(0, 11), r.nextInt(5) == 0 ? r.nextInt() : r.nextInt(6)); break;
            case 6: call("move", v(0, 3), v(0, 12), v(0, 3), v(0, 12), v(0, 12)); break;
            case 7: call("move", v(0, 3), v(0, 3), v(0, 3), v(0, 3), v(0, 4)); break;
            case 8: case 9: call("chain", v(0, 3), v(0, r.nextInt(3) == 0 ? 999 : 3), 0); break;
            default: call("chain", v(0, 3), v(0, r.nextInt(3) == 0 ? 999 : 3), v(0, 7)); break;
        }
    }

    private void wait(int k) {
        switch (k % 8) {
            case 0: if (r.nextInt(3) == 0) { call("image"); } break;
            case 1: if (r.nextInt(3) == 0) { call("restore"); } break;
            case 2: call("draws", r.nextInt()); break;
            case 3: call("check", r.nextInt(4) == 0 ? v(0, 33) : r.nextInt(2)); break;
            case 4: settle(r.nextInt(2)); break;
            case 5: for (int i = r.nextInt(20) == 0 ? 34 : 1; i > 0; i--) { call("tell", v(0, 10)); } break;
            default: call("tell", v(0, 10)); break;
        }
    }

    /** Payments that do settle a MONTH, at times with one that spoils it. */
    private void settle(int month) {
        call("check", month);
        long[] p = new long[11];
        for (int i = 0; i < 11; i++) {
            p[i] = real.position(i, month);
        }
        for (int i = 0; i < 11; i++) {
            for (int j = 0; j < 11; j++) {
                long coin = Math.min(-p[i], p[j]);
                if (coin > 0) {
                    p[i] += coin;
                    p[j] -= coin;
                    call("tell", i);
                    call("tell", j);
                    call("tell", coin);
                }
            }
        }
        if (r.nextInt(3) == 0) {
            call("tell", v(0, 10));
        }
        call("check", month);
    }

    private boolean run() {
        int[] weights = new int[5];
        for (int i = 0; i < 5; i++) {
            weights[i] = 1 + r.nextInt(i < 2 ? 12 : 4);
        }
        boolean fillFirst = r.nextBoolean();
        for (int i = 0; i < 12 && fillFirst; i++) {
            call("car", r.nextInt(11), 1 + r.nextInt(20000), r.nextInt(5000), r.nextInt(3));
        }
        for (int steps = 0; steps < 5000 && left > 0 && !failed; steps++) {
            int at = r.nextInt(weights[0] + weights[1] + weights[2] + weights[3] + weights[4]);
            int what = 0;
            while (at >= weights[what]) {
                at -= weights[what];
                what++;
            }
            int k = r.nextInt(1000);
            switch (what) {
                case 0: make(k); break;
                case 1: ask(k); break;
                case 2: treaty(); break;
                case 3: pages(k); break;
                default: wait(k); break;
            }
        }
        return !failed;
    }

    public static void main(String[] args) {
        long first = args.length > 0 ? Long.parseLong(args[0]) : 1;
        int runs = args.length > 1 ? Integer.parseInt(args[1]) : RUNS;
        Map<String, int[]> seen = new java.util.TreeMap<>();
        for (int i = 0; i < runs; i++) {
            FuzzTest f = new FuzzTest(first + i);
            boolean good = f.run();
            for (String line : f.log) {
                int cut = line.indexOf('[');
                if (cut > 0) {
                    int[] c = seen.computeIfAbsent(line.substring(0, cut), x -> new int[7]);
                    int answer = line.contains(" = ") ? Integer.parseInt(line.substring(line.lastIndexOf(' ') + 1)) : 0;
                    c[answer <= -1000001 && answer >= -1000006 ? -1000000 - answer : 0]++;
                }
            }
            if (!good) {
                System.out.println("run of seed " + (first + i) + ":");
                f.log.forEach(System.out::println);
                System.exit(1);
            }
        }
        if (args.length > 2) {
            seen.forEach((name, c) -> System.out.println(name + " " + java.util.Arrays.toString(c)));
        }
        System.out.println("FuzzTest: " + runs + " runs as in the model");
    }
}
