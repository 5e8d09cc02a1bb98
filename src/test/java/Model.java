import java.util.ArrayDeque;
import java.util.ArrayList;
import java.util.Arrays;
import java.util.Comparator;
import java.util.Deque;
import java.util.HashMap;
import java.util.List;
import java.util.Map;
import java.util.TreeSet;

/** The document once more, written in another way than the class, to be compared with it call by call. */
public final class Model {
    static final class Refused extends Exception {
        private static final long serialVersionUID = 1;
        final int k;

        Refused(int k) {
            this.k = k;
        }
    }

    static final class Parted extends RuntimeException {
        private static final long serialVersionUID = 1;
    }

    record Tr(int use, int day, String text) { }

    record En(int crash, int side, int much, int month, int day) { }

    static final class World {
        List<int[]> cars = new ArrayList<>();
        List<int[]> shapes = new ArrayList<>();
        List<int[]> crashes = new ArrayList<>();
        List<Tr> treaties = new ArrayList<>();
        List<En> entries = new ArrayList<>();
        int[][] zones = new int[8][3];
        int[] rates = {10, 15, 70, 20, 30, 0, 1};
        String tape = "";
        List<Integer> waiting = new ArrayList<>();
        int w = 1;

        World copy() {
            World c = new World();
            for (int[] r : cars) {
                c.cars.add(r.clone());
            }
            for (int[] r : shapes) {
                c.shapes.add(r.clone());
            }
            for (int[] r : crashes) {
                c.crashes.add(r.clone());
            }
            c.treaties.addAll(treaties);
            c.entries.addAll(entries);
            for (int z = 0; z < 8; z++) {
                c.zones[z] = zones[z].clone();
            }
            c.rates = rates.clone();
            c.tape = tape;
            c.waiting.addAll(waiting);
            c.w = w;
            return c;
        }
    }

    private World s = new World();
    private World kept;
    private int images;
    private final Map<Integer, Integer> told = new HashMap<>();
    private List<Integer> trace = new ArrayList<>();
    private final long[][] sheets = new long[4][];
    private final int[] bits = new int[4];

    private static void ask(boolean ok, int k) throws Refused {
        if (!ok) {
            throw new Refused(k);
        }
    }

    private static boolean in(int v, int lo, int hi) {
        return lo <= v && v <= hi;
    }

    /** Calls one act; an ERROR is counted here alone. */
    public int call(String name, long... a) {
        try {
            return act(name, a);
        } catch (Refused r) {
            told.merge(r.k, 1, Integer::sum);
            return -1000000 - r.k;
        }
    }

    private int act(String name, long[] a) throws Refused {
        int[] i = new int[a.length];
        for (int k = 0; k < a.length; k++) {
            i[k] = (int) a[k];
        }
        switch (name) {
            case "car": return car(i[0], i[1], i[2], i[3]);
            case "carIs": return carIs(i[0], i[1]);
            case "mark": return mark(i[0], i[1], i[2]);
            case "shape": return shape(i[0], i[1], i[2]);
            case "crash": return crash(i[0], i[1], i[2]);
            case "tells": return tells(i[0], i[1], i[2]);
            case "crashIs": return crashIs(i[0], i[1]);
            case "zone": return zone(i[0], i[1], i[2]);
            case "rate": return rate(i[0], i[1]);
            case "worth": return worth(i[0], i[1], i[2]);
            case "back": return back(i[0], i[1], i[2]);
            case "feed": return feed(a[0], i[1]);
            case "treaty": return treaty(i[0], i[1]);
            case "force": return force(i[0], i[1]);
            case "says": return says(i[0], i[1], i[2], i[3], i[4]);
            case "enter": return enter(i[0], i[1], i[2], i[3]);
            case "entryIs": return entryIs(i[0], i[1]);
            case "as": return as(i[0], i[1]);
            case "late": return late(i[0], i[1]);
            case "position": return position(i[0], i[1]);
            case "held": return held(i[0]);
            case "payments": return payments(i[0]);
            case "draws": { int was = s.w; s.w = i[0]; return was; }
            case "panel": return panel(i[0]);
            case "like": return like(i[0], i[1], i[2]);
            case "ring": return ring(i[0]);
            case "rings": return rings(i[0]);
            case "core": return core();
            case "chain": return chain(i[0], i[1], i[2]);
            case "voice": return voice(i[0], i[1], i[2]);
            case "trace": ask(in(i[0], 0, trace.size() - 1), 2); return trace.get(i[0]);
            case "sheet": return sheet(i[0], i[1], i[2]);
            case "put": return put(i[0], i[1], i[2]);
            case "move": return move(i[0], i[1], i[2], i[3], i[4]);
            case "image": kept = s.copy(); return ++images;
            case "restore": ask(kept != null, 2); s = kept.copy(); return s.crashes.size();
            case "tell": ask(s.waiting.size() < 33, 4); s.waiting.add(i[0]); return s.waiting.size();
            case "check": return check(i[0]);
            case "count": return count(i[0]);
            case "told": ask(in(i[0], 1, 6), 1); return told.getOrDefault(i[0], 0);
            default: throw new IllegalStateException(name);
        }
    }

    // cars: insurer, new, age, excess, old, -, mark, mark, mark
    private int car(int insurer, int price, int age, int old) throws Refused {
        ask(in(insurer, 0, 10) && in(price, 1, 99999) && age >= 0 && in(age / 1000, 0, 20) && in(old, 0, 255), 1);
        ask(s.cars.size() < 30, 4);
        s.cars.add(new int[] {insurer, price, age / 1000, age % 1000, old, 0, -1, -1, -1});
        return s.cars.size() - 1;
    }

    private int book(int car) {
        long left = s.cars.get(car)[1];
        for (int y = s.cars.get(car)[2]; y > 0; y--) {
            left = (left * 100 - left * s.rates[1]) / 100;
        }
        return (int) left;
    }

    private int carIs(int car, int what) throws Refused {
        ask(in(car, 0, s.cars.size() - 1) && in(what, 0, 8), 1);
        return what == 5 ? book(car) : s.cars.get(car)[what];
    }

    private int mark(int car, int which, int v) throws Refused {
        ask(in(car, 0, s.cars.size() - 1) && in(which, 0, 2) && in(v, -1, 99), 1);
        int was = s.cars.get(car)[6 + which];
        s.cars.get(car)[6 + which] = v;
        return was;
    }

    private int shape(int needs, int may, int fault) throws Refused {
        ask(in(needs, 0, 65535) && in(may, 0, 65535) && in(fault, 0, 100), 1);
        ask(s.shapes.size() < 16, 4);
        s.shapes.add(new int[] {needs, may, fault});
        return s.shapes.size() - 1;
    }

    // crashes: first, second, day, speed, dents, telling, telling
    private int crash(int cars, int when, int dents) throws Refused {
        ask(cars >= 0 && cars / 100 < s.cars.size() && cars % 100 < s.cars.size(), 1);
        ask(when >= 0 && when / 100 <= 999 && in(dents, 0, 65535), 1);
        ask(s.cars.get(cars / 100)[0] != s.cars.get(cars % 100)[0], 5);
        ask(s.crashes.size() < 20, 4);
        s.crashes.add(new int[] {cars / 100, cars % 100, when / 100, when % 100, dents, 0, 0});
        return s.crashes.size() - 1;
    }

    private int tells(int crash, int side, int shapes) throws Refused {
        ask(in(crash, 0, s.crashes.size() - 1) && in(side, 0, 1) && shapes >= 0, 1);
        ask(shapes >> s.shapes.size() == 0, 1);
        int was = s.crashes.get(crash)[5 + side];
        s.crashes.get(crash)[5 + side] = shapes;
        return was;
    }

    private boolean isFresh(int crash, int side, int zone) {
        int[] c = s.crashes.get(crash);
        int dents = side == 0 ? c[4] / 256 : c[4] % 256;
        return (dents >> zone & 1) == 1 && (s.cars.get(c[side])[4] >> zone & 1) == 0;
    }

    private int fresh(int crash, int side) {
        int set = 0;
        for (int z = 0; z < 8; z++) {
            set += isFresh(crash, side, z) ? 1 << z : 0;
        }
        return set;
    }

    private TreeSet<Integer> fits(int crash) {
        TreeSet<Integer> all = new TreeSet<>();
        for (int n = 0; n < s.shapes.size(); n++) {
            boolean ok = true;
            for (int side = 0; side < 2; side++) {
                for (int z = 0; z < 8; z++) {
                    int at = z + (side == 0 ? 8 : 0);
                    boolean need = (s.shapes.get(n)[0] >> at & 1) == 1;
                    boolean may = (s.shapes.get(n)[1] >> at & 1) == 1;
                    boolean is = isFresh(crash, side, z);
                    ok &= !(need && !is) && !(is && !need && !may);
                }
            }
            if (ok) {
                all.add(n);
            }
        }
        return all;
    }

    private TreeSet<Integer> left(int crash) {
        TreeSet<Integer> fits = fits(crash);
        int[] c = s.crashes.get(crash);
        for (int need = 2; need >= 1; need--) {
            TreeSet<Integer> left = new TreeSet<>();
            for (int n : fits) {
                int says = 0;
                for (int side = 0; side < 2; side++) {
                    says += c[5 + side] == 0 || (c[5 + side] >> n & 1) == 1 ? 1 : 0;
                }
                if (says >= need) {
                    left.add(n);
                }
            }
            if (!left.isEmpty()) {
                return left;
            }
        }
        return fits;
    }

    private static int set(TreeSet<Integer> of) {
        return of.stream().mapToInt(n -> 1 << n).sum();
    }

    private int least(int crash) {
        return left(crash).stream().mapToInt(n -> s.shapes.get(n)[2]).min().orElse(0);
    }

    private int most(int crash) {
        return left(crash).stream().mapToInt(n -> s.shapes.get(n)[2]).max().orElse(100);
    }

    private Tr inForce(int use, int day) {
        Tr last = null;
        for (Tr t : s.treaties) {
            if (t.use == use && t.day <= day) {
                last = t;
            }
        }
        return last;
    }

    private int agreed(int crash) {
        int[] c = s.crashes.get(crash);
        Tr t = inForce(0, c[2]);
        int is = t == null ? (least(crash) + most(crash)) / 2
                : run(t, least(crash), most(crash), left(crash).size(), c[3]);
        return is < 0 ? 0 : is > 100 ? 100 : is;
    }

    private int crashIs(int crash, int what) throws Refused {
        ask(in(crash, 0, s.crashes.size() - 1) && in(what, 0, 10), 1);
        switch (what) {
            case 4: return fresh(crash, 0);
            case 5: return fresh(crash, 1);
            case 6: return set(fits(crash));
            case 7: return set(left(crash));
            case 8: return least(crash);
            case 9: return most(crash);
            case 10: return agreed(crash);
            default: return s.crashes.get(crash)[what];
        }
    }

    private int zone(int zone, int what, int v) throws Refused {
        ask(in(zone, 0, 7) && in(what, 0, 2), 1);
        ask(in(v, 0, new int[] {9999, 99, 60}[what]), 1);
        int was = s.zones[zone][what];
        s.zones[zone][what] = v;
        return was;
    }

    private int rate(int what, int v) throws Refused {
        ask(in(what, 0, 6), 1);
        ask(in(v, 0, new int[] {99, 50, 100, 100, 99, 9999, 50}[what]), 1);
        int was = s.rates[what];
        s.rates[what] = v;
        return was;
    }

    private long hours(int crash, int side) {
        long sum = 0;
        for (int z = 0; z < 8; z++) {
            sum += isFresh(crash, side, z) ? s.zones[z][1] : 0;
        }
        return sum;
    }

    private long repair(int crash, int side) {
        long sum = hours(crash, side) * s.rates[0];
        for (int z = 0; z < 8; z++) {
            sum += isFresh(crash, side, z) ? s.zones[z][0] : 0;
        }
        return sum;
    }

    private boolean total(int crash, int side) {
        return repair(crash, side) * 100 > (long) s.rates[2] * book(s.crashes.get(crash)[side]);
    }

    private long loss(int crash, int side) {
        long book = book(s.crashes.get(crash)[side]);
        return total(crash, side) ? book - book * s.rates[3] / 100 : repair(crash, side);
    }

    private long delay(int crash, int side) {
        long most = 0;
        for (int z = 0; z < 8 && !total(crash, side); z++) {
            most = isFresh(crash, side, z) && s.zones[z][2] > most ? s.zones[z][2] : most;
        }
        return most;
    }

    private long hire(int crash, int side) {
        long h = hours(crash, side);
        return total(crash, side) ? 14 : delay(crash, side) + h / 8 + (h % 8 == 0 ? 0 : 1);
    }

    private long claim(int crash, int side) {
        long all = loss(crash, side) + hire(crash, side) * s.rates[4];
        return all * (side == 1 ? agreed(crash) : 100 - agreed(crash)) / 100;
    }

    private int worth(int crash, int side, int what) throws Refused {
        ask(in(crash, 0, s.crashes.size() - 1) && in(side, 0, 1) && in(what, 0, 5), 1);
        switch (what) {
            case 0: return (int) repair(crash, side);
            case 1: return total(crash, side) ? 1 : 0;
            case 2: return (int) loss(crash, side);
            case 3: return (int) hire(crash, side);
            case 4: return (int) delay(crash, side);
            default: return (int) claim(crash, side);
        }
    }

    private int back(int crash, int side, int coin) throws Refused {
        ask(in(crash, 0, s.crashes.size() - 1) && in(side, 0, 1) && in(coin, 0, 999999), 1);
        int e = s.cars.get(s.crashes.get(crash)[side])[3];
        Tr t = inForce(1, s.crashes.get(crash)[2]);
        int is = t == null ? Math.min(coin, e) : run(t, coin, e, (int) loss(crash, side), 0);
        return is < 0 ? 0 : is > coin ? coin : is;
    }

    private int feed(long word, int n) throws Refused {
        ask(in(n, 1, 8), 1);
        ask(s.tape.length() + n <= 60, 4);
        for (int k = 0; k < n; k++) {
            s.tape += (char) (word >>> 8 * k & 255);
        }
        return s.tape.length();
    }

    private int treaty(int use, int day) throws Refused {
        ask(in(use, 0, 2) && in(day, 0, 999), 1);
        ask(s.treaties.size() < 10, 4);
        String text = s.tape;
        s.tape = "";
        int fault = fault(text, use);
        if (fault >= 0) {
            return -10 - fault;
        }
        s.treaties.add(new Tr(use, day, text));
        return s.treaties.size() - 1;
    }

    private int force(int use, int day) throws Refused {
        ask(in(use, 0, 2) && in(day, 0, 999), 1);
        Tr t = inForce(use, day);
        ask(t != null, 2);
        for (int n = s.treaties.size() - 1; ; n--) {
            if (s.treaties.get(n) == t) {
                return n;
            }
        }
    }

    private int says(int treaty, int a, int b, int c, int d) throws Refused {
        ask(in(treaty, 0, s.treaties.size() - 1), 1);
        return run(s.treaties.get(treaty), a, b, c, d);
    }

    private static final String[] NAMES = {"lmnv", "rec", "ckb"};

    /** Words with their places: {word, place}. */
    private static List<Object[]> words(String text) {
        List<Object[]> all = new ArrayList<>();
        java.util.regex.Matcher m = java.util.regex.Pattern.compile("[a-z]+|[0-9]+|[^ ]", java.util.regex.Pattern.DOTALL).matcher(text);
        while (m.find()) {
            all.add(new Object[] {m.group(), m.start()});
        }
        return all;
    }

    /** A pushdown machine: what is open is a pile; a ONE that ends closes all ! and - on top of it. */
    private static int fault(String text, int use) {
        Deque<String> open = new ArrayDeque<>();
        boolean wantsOne = true;
        boolean wantsParen = false;
        // for each frame (the whole text, and each bracket): whether its IS has a compare already
        Deque<Boolean> compared = new ArrayDeque<>();
        compared.push(false);
        for (Object[] at : words(text)) {
            String w = (String) at[0];
            int place = (int) at[1];
            boolean ended = false;
            if (wantsParen) {
                if (!w.equals("(") || open.size() == 5) {
                    return place;
                }
                open.push("first");
                compared.push(false);
                wantsParen = false;
            } else if (wantsOne) {
                if (w.equals("!") || w.equals("-") || w.equals("(")) {
                    if (open.size() == 5) {
                        return place;
                    }
                    open.push(w);
                    if (w.equals("(")) {
                        compared.push(false);
                    }
                } else if (w.equals("max") || w.equals("min")) {
                    wantsParen = true;
                } else if (w.matches("[0-9]{1,4}") || w.length() == 1 && NAMES[use].contains(w)) {
                    ended = true;
                } else {
                    return place;
                }
            } else if ("|&+-*/".contains(w)) {
                if (w.equals("|") || w.equals("&")) {
                    compared.pop();
                    compared.push(false);
                }
                wantsOne = true;
            } else if ("<=>".contains(w)) {
                if (compared.pop()) {
                    return place;
                }
                compared.push(true);
                wantsOne = true;
            } else if (w.equals(",") && "first".equals(open.peek())) {
                open.pop();
                open.push("second");
                compared.pop();
                compared.push(false);
                wantsOne = true;
            } else if (w.equals(")") && ("(".equals(open.peek()) || "second".equals(open.peek()))) {
                open.pop();
                compared.pop();
                ended = true;
            } else {
                return place;
            }
            if (ended) {
                wantsOne = false;
                while ("!".equals(open.peek()) || "-".equals(open.peek())) {
                    open.pop();
                }
            }
        }
        return wantsOne || wantsParen || !open.isEmpty() ? text.length() : -1;
    }

    private static int run(Tr t, int a, int b, int c, int d) {
        List<String> w = new ArrayList<>();
        for (Object[] at : words(t.text)) {
            w.add((String) at[0]);
        }
        Map<String, Integer> names = new HashMap<>();
        int[] values = {a, b, c, d};
        for (int i = 0; i < NAMES[t.use].length(); i++) {
            names.put(NAMES[t.use].substring(i, i + 1), values[i]);
        }
        return split(w, names);
    }

    /** The value of words, by parting them at the outermost last sign of the loosest kind. */
    private static int split(List<String> w, Map<String, Integer> names) {
        for (String kind : List.of("|", "&", "<=>", "+-", "*/")) {
            int depth = 0;
            for (int i = w.size() - 1; i > 0; i--) {
                depth += w.get(i).equals(")") ? 1 : w.get(i).equals("(") ? -1 : 0;
                boolean joins = w.get(i - 1).matches("[a-z0-9]+|\\)");
                if (depth == 0 && joins && w.get(i).length() == 1 && kind.contains(w.get(i))) {
                    return join(w.get(i).charAt(0), split(w.subList(0, i), names), split(w.subList(i + 1, w.size()), names));
                }
            }
        }
        String first = w.get(0);
        if (first.equals("!")) {
            return split(w.subList(1, w.size()), names) == 0 ? 1 : 0;
        }
        if (first.equals("-")) {
            return -split(w.subList(1, w.size()), names);
        }
        if (first.equals("(")) {
            return split(w.subList(1, w.size() - 1), names);
        }
        if (first.equals("max") || first.equals("min")) {
            int depth = 0;
            for (int i = 1; ; i++) {
                depth += w.get(i).equals(")") ? -1 : w.get(i).equals("(") ? 1 : 0;
                if (depth == 1 && w.get(i).equals(",")) {
                    int x = split(w.subList(2, i), names);
                    int y = split(w.subList(i + 1, w.size() - 1), names);
                    return first.equals("max") ? Math.max(x, y) : Math.min(x, y);
                }
            }
        }
        return names.containsKey(first) ? names.get(first) : Integer.parseInt(first);
    }

    private static int join(char sign, int a, int b) {
        switch (sign) {
            case '|': return (a | b) != 0 ? 1 : 0;
            case '&': return a != 0 & b != 0 ? 1 : 0;
            case '<': return Integer.compare(a, b) < 0 ? 1 : 0;
            case '=': return Integer.compare(a, b) == 0 ? 1 : 0;
            case '>': return Integer.compare(a, b) > 0 ? 1 : 0;
            case '+': return (int) ((long) a + b);
            case '-': return (int) ((long) a - b);
            case '*': return (int) ((long) a * b);
            default: return b == 0 ? 0 : (int) ((long) a / b);
        }
    }

    private int enter(int crash, int side, int much, int when) throws Refused {
        ask(in(crash, 0, s.crashes.size() - 1) && in(side, 0, 1) && in(much, 0, 999999), 1);
        ask(when >= 0 && when / 1000 <= 33, 1);
        ask(s.entries.size() < 40, 4);
        s.entries.add(new En(crash, side, much, when / 1000, when % 1000));
        return s.entries.size() - 1;
    }

    private int first(int entry) {
        for (int n = 0; ; n++) {
            if (s.entries.get(n).crash == s.entries.get(entry).crash && s.entries.get(n).side == s.entries.get(entry).side) {
                return n;
            }
        }
    }

    private boolean disputed(int entry) {
        En e = s.entries.get(entry);
        Tr t = inForce(2, s.crashes.get(e.crash)[2]);
        int k = (int) claim(e.crash, e.side);
        return t == null ? e.much > k + s.rates[5] : run(t, e.much, k, s.rates[5], 0) != 0;
    }

    private int kind(int entry) {
        En e = s.entries.get(entry);
        return first(entry) < entry ? 4 : disputed(entry) ? 3 : total(e.crash, e.side) ? 2 : 1;
    }

    private int entryIs(int entry, int what) throws Refused {
        ask(in(entry, 0, s.entries.size() - 1) && in(what, 0, 7), 1);
        En e = s.entries.get(entry);
        return new int[] {e.crash, e.side, e.much, e.month, e.day, first(entry), disputed(entry) ? 1 : 0, kind(entry)}[what];
    }

    private int as(int entry, int kind) throws Refused {
        ask(in(entry, 0, s.entries.size() - 1) && in(kind, 0, 4), 1);
        ask(voiceOf(entry, List.of(E.class, Dent.class, Loss.class, Held.class, Again.class).get(kind)), 5);
        return s.entries.get(entry).much;
    }

    private boolean voiceOf(int entry, Class<? extends E> kind) {
        return kind.isInstance(speaker(entry));
    }

    private int late(int entry, int day) throws Refused {
        ask(in(entry, 0, s.entries.size() - 1) && in(day, 0, 999), 1);
        En e = s.entries.get(entry);
        long thousandths = 0;
        for (int d = e.day + 31; d <= day; d++) {
            thousandths += (long) e.much * s.rates[6];
        }
        return (int) Math.min(2000000000L, thousandths / 1000);
    }

    private long[] positions(int month) {
        long[] all = new long[11];
        for (int n = 0; n < s.entries.size(); n++) {
            En e = s.entries.get(n);
            if (e.month == month && first(n) == n && !disputed(n)) {
                all[s.cars.get(s.crashes.get(e.crash)[e.side])[0]] += e.much;
                all[s.cars.get(s.crashes.get(e.crash)[1 - e.side])[0]] -= e.much;
            }
        }
        return all;
    }

    private int position(int insurer, int month) throws Refused {
        ask(in(insurer, 0, 10) && in(month, 0, 33), 1);
        return (int) positions(month)[insurer];
    }

    private int held(int month) throws Refused {
        ask(in(month, 0, 33), 1);
        int sum = 0;
        for (int n = 0; n < s.entries.size(); n++) {
            sum += s.entries.get(n).month == month && first(n) == n && disputed(n) ? s.entries.get(n).much : 0;
        }
        return sum;
    }

    private int payments(int month) throws Refused {
        ask(in(month, 0, 33), 1);
        return fewest(Arrays.stream(positions(month)).filter(p -> p != 0).toArray(), new HashMap<>());
    }

    /** The first one of all pays or is paid by one other, whole: one payment less to do. */
    private static int fewest(long[] p, Map<String, Integer> known) {
        if (p.length == 0) {
            return 0;
        }
        Arrays.sort(p);
        String key = Arrays.toString(p);
        if (known.containsKey(key)) {
            return known.get(key);
        }
        int best = Integer.MAX_VALUE;
        for (int k = 1; k < p.length; k++) {
            if (p[0] < 0 != p[k] < 0) {
                long[] rest = Arrays.copyOfRange(p, 1, p.length);
                rest[k - 1] += p[0];
                best = Math.min(best, 1 + fewest(Arrays.stream(rest).filter(v -> v != 0).toArray(), known));
            }
        }
        known.put(key, best);
        return best;
    }

    private int panel(int crash) throws Refused {
        ask(in(crash, 0, s.crashes.size() - 1), 1);
        List<Integer> may = new ArrayList<>();
        for (int k = 0; k < 11; k++) {
            if (k != s.cars.get(s.crashes.get(crash)[0])[0] && k != s.cars.get(s.crashes.get(crash)[1])[0]) {
                may.add(k);
            }
        }
        int drawn = 0;
        for (int k = 0; k < 3; k++) {
            s.w = (int) (s.w * 1103515245L + 12345L);
            drawn += 1 << may.remove(Math.floorMod(s.w >> 16, 65536) % may.size());
        }
        return drawn;
    }

    private int unlike(int a, int b) {
        int sum = Math.abs(s.crashes.get(a)[3] - s.crashes.get(b)[3]);
        for (int z = 0; z < 8; z++) {
            for (int side = 0; side < 2; side++) {
                sum += isFresh(a, side, z) != isFresh(b, side, z) ? 10 : 0;
            }
        }
        return sum;
    }

    private int like(int crash, int i, int what) throws Refused {
        ask(in(crash, 0, s.crashes.size() - 1) && i >= 0 && in(what, 0, 1), 1);
        List<Integer> ahead = new ArrayList<>();
        for (int k = 0; k < crash; k++) {
            ahead.add(k);
        }
        ahead.sort(Comparator.comparingInt(k -> unlike(crash, k)));
        ask(i < ahead.size(), 2);
        return what == 0 ? ahead.get(i) : unlike(crash, ahead.get(i));
    }

    private boolean tied(int a, int b) {
        boolean is = false;
        for (int k = 0; k < 4; k++) {
            int one = s.crashes.get(a)[k / 2];
            int other = s.crashes.get(b)[k % 2];
            int same = 0;
            for (int m = 6; m < 9; m++) {
                same += s.cars.get(one)[m] == s.cars.get(other)[m] && s.cars.get(one)[m] != -1 ? 1 : 0;
            }
            is |= one == other || same >= 2;
        }
        return is;
    }

    private int[] roots() {
        int[] root = new int[s.crashes.size()];
        for (int k = 0; k < root.length; k++) {
            root[k] = k;
            for (int j = 0; j < k; j++) {
                if (tied(j, k) && root[j] != root[k]) {
                    int from = root[k];
                    int to = root[j];
                    for (int m = 0; m <= k; m++) {
                        root[m] = root[m] == from ? to : root[m];
                    }
                }
            }
        }
        return root;
    }

    private int ring(int crash) throws Refused {
        ask(in(crash, 0, s.crashes.size() - 1), 1);
        int[] root = roots();
        int set = 0;
        for (int k = 0; k < root.length; k++) {
            set += root[k] == root[crash] ? 1 << k : 0;
        }
        return set;
    }

    private int rings(int k) throws Refused {
        ask(in(k, 1, 20), 1);
        int[] sizes = new int[20];
        for (int r : roots()) {
            sizes[r]++;
        }
        return (int) Arrays.stream(sizes).filter(n -> n >= k).count();
    }

    private int core() {
        int n = s.crashes.size();
        boolean[][] tied = new boolean[n][n];
        for (int a = 0; a < n; a++) {
            for (int b = 0; b < n; b++) {
                tied[a][b] = a != b && tied(a, b);
            }
        }
        List<Integer> cliques = new ArrayList<>(List.of(0));
        int best = 0;
        for (int k = 0; k < n; k++) {
            for (int c = cliques.size() - 1; c >= 0; c--) {
                boolean all = true;
                for (int m = 0; m < k && all; m++) {
                    all = (cliques.get(c) >> m & 1) == 0 || tied[m][k];
                }
                if (all) {
                    cliques.add(cliques.get(c) | 1 << k);
                }
            }
        }
        for (int c : cliques) {
            int more = Integer.bitCount(c) - Integer.bitCount(best);
            best = more > 0 || more == 0 && c < best ? c : best;
        }
        return best;
    }

    private int chain(int sheet, int off, int what) throws Refused {
        ask(in(sheet, 0, 3) && in(off, 0, 999) && what >= 0, 1);
        ask(bits[sheet] != 0, 2);
        long[] row = sheets[sheet];
        ask(row.length % 2 == 0 && in(row.length, 2, 12), 5);
        List<List<Integer>> orders = new ArrayList<>();
        orders(row, off, new ArrayList<>(), orders);
        if (what == 0) {
            return orders.size();
        }
        ask(!orders.isEmpty() && what <= row.length / 2, 2);
        return orders.get(0).get(what - 1);
    }

    private static void orders(long[] row, int off, List<Integer> begun, List<List<Integer>> all) {
        int n = row.length / 2;
        if (begun.size() == n) {
            for (int k = 0; k + 1 < n; k++) {
                if (Math.abs(row[2 * begun.get(k)] - row[2 * begun.get(k + 1) + 1]) > off) {
                    return;
                }
            }
            all.add(new ArrayList<>(begun));
            return;
        }
        for (int k = 0; k < n; k++) {
            if (!begun.contains(k)) {
                begun.add(k);
                orders(row, off, begun, all);
                begun.remove(begun.size() - 1);
            }
        }
    }

    static class E {
        int n;
        int h;
        List<Integer> t = new ArrayList<>();

        int asks(int x) {
            t.add(10);
            return x + h;
        }

        int shows(int x) {
            t.add(11);
            return asks(x) * 2;
        }

        int holds(int x) {
            t.add(12);
            return shows(x) - n;
        }

        int pays(int x) {
            t.add(13);
            if (h == n) {
                throw new Parted();
            }
            return x / (h - n);
        }
    }

    static class Dent extends E {
        @Override
        int shows(int x) {
            t.add(20);
            return super.shows(x) + 1;
        }

        @Override
        int pays(int x) {
            t.add(21);
            return super.pays(x) + holds(1);
        }
    }

    static class Loss extends Dent {
        @Override
        int asks(int x) {
            t.add(30);
            return super.asks(x) * 3;
        }

        @Override
        int holds(int x) {
            t.add(31);
            return super.holds(x) ^ h;
        }
    }

    static class Held extends E {
        @Override
        int asks(int x) {
            t.add(40);
            return 0 - super.asks(x);
        }

        @Override
        int holds(int x) {
            t.add(41);
            return super.holds(x + n);
        }
    }

    static class Again extends Held {
        @Override
        int shows(int x) {
            t.add(50);
            return super.shows(x) / 2;
        }

        @Override
        int holds(int x) {
            t.add(51);
            return super.holds(x) - asks(2);
        }

        @Override
        int pays(int x) {
            t.add(52);
            return asks(x) - super.pays(x);
        }
    }

    private E speaker(int entry) {
        int kind = kind(entry);
        E e = kind == 1 ? new Dent() : kind == 2 ? new Loss() : kind == 3 ? new Held() : new Again();
        e.n = entry;
        e.h = s.entries.get(entry).month;
        return e;
    }

    private int voice(int entry, int act, int x) throws Refused {
        ask(in(entry, 0, s.entries.size() - 1) && in(act, 0, 3), 1);
        E e = speaker(entry);
        try {
            return act == 0 ? e.asks(x) : act == 1 ? e.shows(x) : act == 2 ? e.holds(x) : e.pays(x);
        } catch (Parted p) {
            throw new Refused(6);
        } finally {
            trace = e.t.subList(0, Math.min(30, e.t.size()));
        }
    }

    private int sheet(int sheet, int b, int n) throws Refused {
        ask(in(sheet, 0, 3) && List.of(0, 8, 16, 32).contains(b), 1);
        if (b != 0) {
            ask(n >= 0, 3);
            ask(n <= 24, 1);
        }
        bits[sheet] = b;
        sheets[sheet] = b == 0 ? null : new long[n];
        return 1;
    }

    private int put(int sheet, int i, int v) throws Refused {
        ask(in(sheet, 0, 3), 1);
        ask(bits[sheet] != 0, 2);
        ask(in(i, 0, sheets[sheet].length - 1), 1);
        long range = 1L << bits[sheet];
        long cut = Math.floorMod((long) v, range);
        sheets[sheet][i] = cut >= range / 2 ? cut - range : cut;
        return 1;
    }

    private int move(int sheet, int i, int other, int j, int n) throws Refused {
        ask(in(sheet, 0, 3) && in(other, 0, 3), 1);
        ask(bits[sheet] != 0 && bits[other] != 0, 2);
        ask(bits[sheet] == bits[other], 5);
        ask(n >= 0 && i >= 0 && j >= 0, 1);
        ask((long) i + n <= sheets[sheet].length && (long) j + n <= sheets[other].length, 1);
        long[] was = sheets[sheet].clone();
        for (int k = 0; k < n; k++) {
            sheets[other][j + k] = was[i + k];
        }
        return n;
    }

    private int check(int month) throws Refused {
        List<Integer> told = s.waiting;
        s.waiting = new ArrayList<>();
        ask(in(month, 0, 33), 1);
        long[] p = positions(month);
        for (int k = 0; k < told.size(); k += 3) {
            int from = told.get(k);
            if (!in(from, 0, 10)) {
                return 1 + k;
            }
            if (k + 1 >= told.size() || !in(told.get(k + 1), 0, 10) || told.get(k + 1) == from) {
                return 2 + k;
            }
            if (k + 2 >= told.size() || told.get(k + 2) < 1) {
                return 3 + k;
            }
            p[from] += told.get(k + 2);
            p[told.get(k + 1)] -= told.get(k + 2);
        }
        return Arrays.stream(p).allMatch(v -> v == 0) ? 0 : 1 + told.size();
    }

    private int count(int what) throws Refused {
        ask(in(what, 0, 8), 1);
        int counting = 0;
        for (int n = 0; n < s.entries.size(); n++) {
            counting += first(n) == n ? 1 : 0;
        }
        return new int[] {s.cars.size(), s.shapes.size(), s.crashes.size(), s.treaties.size(), s.entries.size(),
            counting, s.tape.length(), s.waiting.size(), trace.size()}[what];
    }
}
