import java.util.ArrayList;
import java.util.Arrays;
import java.util.List;
import java.util.Map;
import java.util.TreeMap;

/**
 * One test of its own for each sentence of the document that has an edge. A test quotes the words
 * that it holds the class to, so that it can be told which words have none.
 */
final class Edges {
    /** The section of the words that stand ahead of all promises. */
    static final int TERMS = 0;

    private static final Map<Integer, List<String>> QUOTED = new TreeMap<>();
    private static int held = 0;
    private static int broken = 0;

    private Edges() {
    }

    static void term(String words, Runnable test) {
        promise(TERMS, words, test);
    }

    static void promise(int number, String words, Runnable test) {
        quote(number, words);
        int askedBefore = Check.asked();
        int wrongBefore = Check.wrong();
        try {
            test.run();
        } catch (RuntimeException e) {
            Check.fail("it ended with " + e);
        }
        if (Check.asked() == askedBefore) {
            Check.fail("nothing was asked");
        }
        if (Check.wrong() == wrongBefore) {
            held++;
        } else {
            broken++;
            System.out.println("  so it doesn't hold, " + section(number) + ": " + words);
        }
    }

    /** Words that say how to read the others, and have no edge of their own. */
    static void onlyTold(String words) {
        quote(TERMS, words);
    }

    static String section(int number) {
        return number == TERMS ? "terms" : "promise " + number;
    }

    static List<String> quoted(int number) {
        return QUOTED.getOrDefault(number, List.of());
    }

    static void tell() {
        System.out.println(held + " sentences hold, " + broken + " don't");
    }

    private static void quote(int number, String words) {
        QUOTED.computeIfAbsent(number, n -> new ArrayList<>()).add(words);
    }

    // ---- what many of these tests need

    /** All that an object tells of itself, but for STATUS: what a refused call must leave as it is. */
    static int[] state(LuckCrates x) {
        List<Integer> all = new ArrayList<>();
        for (int what = 0; what <= 12; what++) {
            all.add(x.count(what));
        }
        for (int t = 0; t < x.count(0); t++) {
            for (int what = 0; what <= 6; what++) {
                all.add(x.town(t, what));
            }
        }
        for (int c = 0; c < x.count(2); c++) {
            for (int what = 0; what <= 4; what++) {
                all.add(x.crate(c, what));
            }
        }
        return all.stream().mapToInt(Integer::intValue).toArray();
    }

    static void same(String what, int[] was, LuckCrates x) {
        Check.due(what + ": nothing changed", true, Arrays.equals(was, state(x)));
    }

    /** A town that makes 20, stakes 20 and loses has 30 more each day: 9999 on DAY 300. */
    static LuckCrates in310Days(String text) {
        LuckCrates x = Texts.told(text);
        for (int i = 0; i < 10; i++) {
            x.days(30);
        }
        x.days(10);
        return x;
    }

    static LuckCrates on999(String text) {
        LuckCrates x = Texts.told(text);
        for (int i = 0; i < 33; i++) {
            x.days(30);
        }
        x.days(9);
        return x;
    }

    static void fault(String text, int code, int place) {
        LuckCrates x = new LuckCrates();
        Check.due("province of " + text, code, Texts.province(x, text));
        Check.due("fault() of " + text, place, x.fault());
    }

    static void whole(String text) {
        fault(text, 0, LuckCrates.NONE);
    }
}
