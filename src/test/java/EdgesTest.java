import java.lang.reflect.Method;
import java.util.ArrayList;
import java.util.Arrays;
import java.util.List;
import java.util.TreeMap;

/**
 * Each act with each two of its arguments at all edges at once, the others being good ones, on an empty table, one with some
 * of everything, and a full one; the answers, and all that is told then, must be as in Model. None may throw.
 */
public final class EdgesTest {
    private static final int MOST_CALLS = 512;
    private static final int LAST_LOOKS = 6 + 9;
    private static final int[] EDGES = {Integer.MIN_VALUE, Integer.MIN_VALUE + 1, -1000001, -65536, -1000, -256, -101, -100, -99,
        -2, -1, 0, 1, 2, 3, 4, 5, 6, 7, 8, 9, 10, 11, 12, 13, 15, 16, 17, 19, 20, 21, 23, 24, 25, 29, 30, 32, 33, 34, 39, 40, 50,
        51, 60, 61, 99, 100, 101, 255, 256, 257, 999, 1000, 1001, 2900, 2929, 2930, 3000, 9999, 10000, 20999, 21000, 33999, 34000,
        65535, 65536, 99999, 100000, 999999, 1000000, Integer.MAX_VALUE - 1, Integer.MAX_VALUE};

    private final TreeMap<String, Method> acts = new TreeMap<>();
    private final List<long[]> none = List.of();
    private int state;
    private KnockTable real;
    private Model model;
    private int left;
    private int asked;
    private int wrong;

    private EdgesTest() {
        for (Method m : KnockTable.class.getDeclaredMethods()) {
            if (java.lang.reflect.Modifier.isPublic(m.getModifiers())) {
                acts.put(m.getName(), m);
            }
        }
    }

    private void call(String name, long... a) {
        Method m = acts.get(name);
        Object[] boxed = new Object[a.length];
        for (int i = 0; i < a.length; i++) {
            boxed[i] = m.getParameterTypes()[i] == long.class ? (Object) a[i] : (Object) (int) a[i];
        }
        left--;
        asked++;
        int want = model.call(name, a);
        String got;
        try {
            got = m.invoke(real, boxed).toString();
        } catch (ReflectiveOperationException e) {
            got = String.valueOf(e.getCause());
        }
        if (!got.equals(Integer.toString(want))) {
            wrong++;
            System.out.println("state " + state + ", " + name + Arrays.toString(a) + " answered " + got + ", due is " + want);
        }
    }

    private void make() {
        real = new KnockTable();
        model = new Model();
        left = MOST_CALLS;
        if (state > 0) {
            fill(state == 1 ? 5 : 30, state == 1 ? 3 : 16, state == 1 ? 4 : 20, state == 1 ? 6 : 40);
            text(state == 1 ? 2 : 10);
            pages(state == 1 ? 3 : 4);
        }
    }

    private void fill(int cars, int shapes, int crashes, int entries) {
        for (int i = 0; i < cars; i++) {
            call("car", i % 11, 99999 - 3000 * i, i % 21 * 1000 + 30 * i, i);
        }
        for (int i = 0; i < shapes; i++) {
            call("shape", 257 * (i & 3), 65535, 6 * i);
        }
        for (int i = 0; i < 8; i++) {
            call("zone", i, i % 3, 60 - i);
        }
        for (int i = 0; i < crashes; i++) {
            call("crash", 100 * (i % cars) + (i + 1) % cars, 5000 * i + i, 257 * (64 + i));
        }
        call("tells", 0, 0, 3);
        call("tells", 1, 1, 4);
        for (int i = 0; i < entries; i++) {
            call("enter", i * 7 % crashes, i % 2, i < 3 ? 999999 : 40 * i, 1000 * (i % 34) + 25 * i % 1000);
        }
        for (int i = 0; i < 33 && (state == 2 || i < 6); i++) {
            call("tell", i % 3);
        }
    }

    private void text(int treaties) {
        for (int i = 0; i < treaties; i++) {
            call("feed", i % 3 == 0 ? 'm' << 16 | '+' << 8 | 'l' : i % 3 == 1 ? 'e' << 16 | '-' << 8 | 'r' : 'k' << 16 | '>' << 8 | 'c', 3);
            call("treaty", i % 3, 100 * i);
        }
        for (int bytes = state == 2 ? 60 : 4; bytes > 0; bytes -= 4) {
            call("feed", ' ' << 24 | '+' << 16 | '2' << 8 | '1', 4);
        }
    }

    private void pages(int sheets) {
        for (int i = 0; i < sheets; i++) {
            call("sheet", i, i == 3 ? 32 : 8 * Math.max(1, i), i == 1 ? 24 : 12);
            for (int k = 0; k < 12; k++) {
                call("put", i, k, k / 2 * 3);
            }
        }
        if (state == 2) {
            call("voice", 39, 2, 9);
            call("image");
        }
    }

    /** What an act may be asked well, so that one or two other arguments tell. */
    private List<long[]> goodOnes(String name) {
        switch (name) {
            case "car": return List.of(new long[] {3, 5000, 2100, 4});
            case "mark": return List.of(new long[] {1, 1, 5});
            case "shape": return List.of(new long[] {257, 3, 50});
            case "crash": return List.of(new long[] {102, 5010, 257}, new long[] {0, 0, 0});
            case "tells": return List.of(new long[] {1, 1, 2});
            case "zone": return List.of(new long[] {2, 0, 5}, new long[] {2, 2, 5});
            case "worth": return List.of(new long[] {1, 1, 5}, new long[] {0, 0, 2});
            case "back": return List.of(new long[] {1, 0, 500});
            case "says": return List.of(new long[] {0, 1, 2, 3, 4}, new long[] {1, 5, -6, 7, 8});
            case "enter": return List.of(new long[] {1, 1, 70, 1030});
            case "like": return List.of(new long[] {3, 1, 0}, new long[] {2, 1, 1});
            case "chain": return List.of(new long[] {0, 3, 0}, new long[] {0, 3, 2}, new long[] {1, 3, 2});
            case "voice": return List.of(new long[] {2, 3, 7}, new long[] {0, 2, 7});
            case "sheet": return List.of(new long[] {2, 16, 4}, new long[] {3, 0, 4});
            case "put": return List.of(new long[] {0, 3, 7}, new long[] {3, 11, 7});
            case "move": return List.of(new long[] {0, 2, 1, 3, 4}, new long[] {0, 12, 1, 24, 0}, new long[] {0, 1, 0, 2, 9},
                    new long[] {2, 0, 3, 0, 1});
            default: return none;
        }
    }

    private void ask(String name, long[] a) {
        if (left <= LAST_LOOKS) {
            look();
            make();
        }
        call(name, a);
    }

    private void look() {
        for (int what = 0; what <= 8; what++) {
            call("count", what);
        }
        for (int k = 1; k <= 6; k++) {
            call("told", k);
        }
    }

    private void edges(String name) {
        int n = acts.get(name).getParameterCount();
        make();
        if (n == 0) {
            ask(name, new long[0]);
        }
        for (int first = 0; n == 1 && first < EDGES.length; first++) {
            ask(name, new long[] {EDGES[first]});
        }
        for (long[] good : n == 2 ? List.of(new long[2]) : goodOnes(name)) {
            for (int i = 0; i < n; i++) {
                for (int j = i + 1; j < n; j++) {
                    for (int both = 0; both < EDGES.length * EDGES.length; both++) {
                        long[] a = good.clone();
                        a[i] = EDGES[both % EDGES.length];
                        a[j] = EDGES[both / EDGES.length];
                        ask(name, a);
                    }
                }
            }
        }
        look();
    }

    public static void main(String[] args) {
        EdgesTest test = new EdgesTest();
        for (String name : test.acts.keySet()) {
            int n = test.acts.get(name).getParameterCount();
            if (n > 2 && test.goodOnes(name).isEmpty()) {
                System.out.println("no good arguments of " + name);
                test.wrong++;
            }
            for (test.state = 0; test.state < 3; test.state++) {
                test.edges(name);
            }
        }
        System.out.println("EdgesTest: " + test.acts.size() + " acts, " + test.asked + " answers, " + test.wrong + " not as due");
        if (test.wrong != 0) {
            System.exit(1);
        }
    }
}
