import java.util.ArrayList;
import java.util.HashMap;
import java.util.HashSet;
import java.util.List;
import java.util.Map;
import java.util.Random;
import java.util.Set;

/**
 * FAULTS of texts (promise 14), found by the grammar of the document alone: after each word all ways on are kept, so the
 * FAULT is at the first word that none of them takes. Neither the class nor Model reads texts so.
 */
public final class GrammarTest {
    private static final int MOST_OPEN = 5;
    private static final String[] NAMES = {"lmnv", "rec", "ckb"};
    private static final String[] WORDS = {"12", "c", "max", "!", "-", "(", ")", ",", "+", "<", "|"};
    private static final int WORDS_OF_ALL = 4;
    private static final int LONG_TEXTS = 20000;

    /** A rule with a place in it, begun at a word. */
    private record Item(String[] rule, int at, int begun) {
        boolean ended() {
            return at == rule.length;
        }

        String next() {
            return rule[at];
        }

        Item on() {
            return new Item(rule, at + 1, begun);
        }
    }

    /** Rules by what they make, which is the first of each; a number behind it says how many are open. */
    private final Map<String, List<String[]>> rules = new HashMap<>();
    private final int use;
    private int asked;
    private int wrong;

    private GrammarTest(int use) {
        this.use = use;
        for (int open = 0; open <= MOST_OPEN; open++) {
            String joins = "OR: AND; OR: OR | AND; AND: IS; AND: AND & IS; IS: SUM; IS: SUM < SUM; IS: SUM = SUM; IS: SUM > SUM;"
                    + "SUM: TERM; SUM: SUM + TERM; SUM: SUM - TERM; TERM: ONE; TERM: TERM * ONE; TERM: TERM / ONE;"
                    + "ONE: number; ONE: name;";
            String opens = "ONE: ! ONE'; ONE: - ONE'; ONE: ( OR' ); ONE: max ( OR' , OR' ); ONE: min ( OR' , OR' );";
            // as the FAULT is at the ( where no more may be open, max and min themselves still go on
            String opensNoMore = "ONE: max nothing; ONE: min nothing;";
            for (String rule : (joins + (open < MOST_OPEN ? opens : opensNoMore)).split(";")) {
                add(rule.trim().replace(":", ""), open);
            }
        }
    }

    private void add(String rule, int open) {
        String[] parts = rule.split(" ");
        for (int i = 0; i < parts.length; i++) {
            boolean deeper = parts[i].endsWith("'");
            if (parts[i].matches("[A-Z]+'?")) {
                parts[i] = parts[i].replace("'", "") + (deeper ? open + 1 : open);
            }
        }
        rules.computeIfAbsent(parts[0], k -> new ArrayList<>()).add(parts);
    }

    /** All items that stand behind a word, with those that they begin and end. */
    private List<Item> closed(List<Item> from, List<List<Item>> ahead) {
        List<Item> all = new ArrayList<>(from);
        Set<Item> seen = new HashSet<>(from);
        for (int i = 0; i < all.size(); i++) {
            Item item = all.get(i);
            List<Item> more = new ArrayList<>();
            if (item.ended()) {
                for (Item above : ahead.get(item.begun)) {
                    if (!above.ended() && above.next().equals(item.rule[0])) {
                        more.add(above.on());
                    }
                }
            } else {
                for (String[] rule : rules.getOrDefault(item.next(), List.of())) {
                    more.add(new Item(rule, 1, ahead.size()));
                }
            }
            for (Item one : more) {
                if (seen.add(one)) {
                    all.add(one);
                }
            }
        }
        return all;
    }

    private String kind(String word) {
        if (word.matches("[0-9]{1,4}")) {
            return "number";
        }
        if (word.length() == 1 && NAMES[use].contains(word)) {
            return "name";
        }
        return word;
    }

    /** The FAULT, or -1. */
    private int fault(String text) {
        List<List<Item>> ahead = new ArrayList<>();
        ahead.add(closed(List.of(new Item(new String[] {"TEXT", "OR0"}, 1, 0)), ahead));
        for (int at = 0; at < text.length(); ) {
            int end = at + 1;
            for (String same : new String[] {"[a-z]", "[0-9]"}) {
                while (text.substring(at, at + 1).matches(same) && end < text.length() && text.substring(end, end + 1).matches(same)) {
                    end++;
                }
            }
            String word = text.substring(at, end);
            if (!word.equals(" ")) {
                List<Item> taken = new ArrayList<>();
                for (Item item : ahead.get(ahead.size() - 1)) {
                    if (!item.ended() && item.next().equals(kind(word))) {
                        taken.add(item.on());
                    }
                }
                if (taken.isEmpty()) {
                    return at;
                }
                ahead.add(closed(taken, ahead));
            }
            at = end;
        }
        for (Item item : ahead.get(ahead.size() - 1)) {
            if (item.ended() && item.rule[0].equals("TEXT")) {
                return -1;
            }
        }
        return text.length();
    }

    private void compare(String text) {
        int fault = fault(text);
        int due = fault < 0 ? 0 : -10 - fault;
        int got = Answers.treaty(new KnockTable(), text, use, 0);
        asked++;
        if (got != due) {
            wrong++;
            System.out.println("promise 14, '" + text + "' of use " + use + " answered " + got + ", due is " + due);
        }
    }

    private void allShortTexts(String ahead, int words) {
        compare(ahead);
        for (int i = 0; i < WORDS.length && words < WORDS_OF_ALL; i++) {
            allShortTexts(ahead + (words > 0 ? " " : "") + WORDS[i], words + 1);
        }
    }

    /** A text that opens much, is mostly right, and has blanks or none. */
    private String text(Random r) {
        String[] opening = {"!", "-", "(", "max(", "min (", "("};
        String[] joining = {"+", "-", "*", "/", "<", "=", ">", "&", "|", ",", ",", ")", ")", ")", ")"};
        String[] ones = {"0", "7", "1234", "12345", "l", "m", "n", "v", "r", "e", "c", "k", "b", "max", "mi", "x", "?", ""};
        StringBuilder all = new StringBuilder();
        int parts = 1 + r.nextInt(12);
        for (int i = 0; i < parts; i++) {
            for (int k = r.nextInt(i == 0 ? 7 : 3); k > 0; k--) {
                all.append(opening[r.nextInt(opening.length)]);
            }
            String own = NAMES[use];
            all.append(r.nextInt(8) > 0 ? own.charAt(r.nextInt(own.length())) + "" : ones[r.nextInt(ones.length)]);
            all.append(r.nextInt(3) == 0 ? " " : "");
            if (i < parts - 1 || r.nextInt(8) == 0) {
                all.append(joining[r.nextInt(joining.length)]);
            }
            all.append(r.nextInt(5) == 0 ? " " : "");
        }
        for (int k = r.nextInt(5); k > 0 && r.nextBoolean(); k--) {
            all.append(')');
        }
        return all.length() > 60 ? all.substring(0, 60) : all.toString();
    }

    private void longTexts() {
        Random r = new Random(use);
        for (int i = 0; i < LONG_TEXTS; i++) {
            compare(text(r));
        }
    }

    public static void main(String[] args) {
        int asked = 0;
        int wrong = 0;
        for (int use = 0; use < NAMES.length; use++) {
            GrammarTest test = new GrammarTest(use);
            if (use == 2) {
                test.allShortTexts("", 0);
            }
            test.longTexts();
            asked += test.asked;
            wrong += test.wrong;
        }
        System.out.println("GrammarTest: " + asked + " texts, " + wrong + " not as due");
        if (wrong != 0) {
            System.exit(1);
        }
    }
}
