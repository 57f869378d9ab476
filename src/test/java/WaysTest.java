/** Promises 18, 19, 33, 34, 35: the ways. */
public final class WaysTest {
    private static final int NONE = LuckCrates.NONE;
    private static final String FOUR = "town 0 0 0 0;".repeat(4);
    private static final String WAYS = "way 0 1 2 0;way 1 2 2 9;way 0 2 4 1;way 2 3 1 0;";

    public static void main(String[] args) {
        far();
        leak();
        row();
        hub();
        bridge();
        aLongRow();
        Check.end();
    }

    private static void far() {
        LuckCrates x = Texts.told(FOUR + "town 0 0 0 0;" + WAYS);
        int[][] due = {{0, 2, 4, 5, NONE}, {2, 0, 2, 3, NONE}, {4, 2, 0, 1, NONE}, {5, 3, 1, 0, NONE},
            {NONE, NONE, NONE, NONE, 0}};
        for (int a = 0; a < 5; a++) {
            for (int b = 0; b < 5; b++) {
                Check.due("far(" + a + ", " + b + ")", due[a][b], x.far(a, b));
            }
        }
        Check.noSuch("no such town", () -> x.far(5, 0));
        Check.noSuch("no such other town", () -> x.far(0, 5));
        Check.noSuch("none below", () -> x.far(0, -1));
        Check.noSuch("none", () -> new LuckCrates().far(0, 0));
    }

    private static void leak() {
        LuckCrates x = Texts.told(FOUR + "town 0 0 0 0;" + WAYS);
        int[][] due = {{0, 0, 4, 4, NONE}, {0, 0, 4, 4, NONE}, {4, 4, 0, 0, NONE}, {4, 4, 0, 0, NONE},
            {NONE, NONE, NONE, NONE, 0}};
        for (int a = 0; a < 5; a++) {
            for (int b = 0; b < 5; b++) {
                Check.due("leak(" + a + ", " + b + ")", due[a][b], x.leak(a, b));
            }
        }
        Check.due("days by leak", 81, Texts.told("town 0 0 0 0;town 0 0 0 0;way 0 1 9 9;").leak(1, 0));
        Check.noSuch("no such town", () -> x.leak(5, 0));
        Check.noSuch("no such other town", () -> x.leak(0, 5));
        Check.noSuch("none below", () -> x.leak(-1, 0));
    }

    private static void rows(LuckCrates x, int from, int to, int... due) {
        for (int i = 0; i < due.length; i++) {
            Check.due("row(" + from + ", " + to + ", " + i + ")", due[i], x.row(from, to, i));
        }
        Check.noSuch("behind the row", () -> x.row(from, to, due.length));
        Check.noSuch("far behind the row", () -> x.row(from, to, Integer.MAX_VALUE));
        Check.noSuch("ahead of the row", () -> x.row(from, to, -1));
    }

    private static void row() {
        LuckCrates x = Texts.told(FOUR + "town 0 0 0 0;" + WAYS);
        rows(x, 0, 2, 0, 1, 2);
        rows(x, 2, 0, 2, 0);
        rows(x, 0, 3, 0, 1, 2, 3);
        rows(x, 3, 0, 3, 2, 0);
        rows(x, 1, 1, 1);
        Check.noSuch("no row", () -> x.row(0, 4, 0));
        Check.noSuch("no row from there", () -> x.row(4, 0, 0));
        Check.noSuch("no such town", () -> x.row(5, 0, 0));
        Check.noSuch("no such other town", () -> x.row(0, 5, 0));
        Check.noSuch("no such town below", () -> x.row(-1, 0, 0));
        Check.noSuch("no such other town below", () -> x.row(0, -1, 0));
        Check.noSuch("no such town by far", () -> x.row(Integer.MAX_VALUE, 0, 0));
        Check.noSuch("no such other town by far", () -> x.row(0, Integer.MAX_VALUE, 0));
        rows(Texts.told(FOUR + "way 0 1 1 0;way 1 3 1 0;way 0 2 1 0;way 2 3 1 0;"), 0, 3, 0, 1, 3);
        rows(Texts.told(FOUR + "way 0 1 1 0;way 1 3 2 0;way 0 2 1 0;way 2 3 1 0;"), 0, 3, 0, 2, 3);
    }

    private static void hub() {
        Check.due("the middle", 1, Texts.told(FOUR + WAYS).hub());
        Check.due("one can't be come to", NONE, Texts.told(FOUR + "town 0 0 0 0;" + WAYS).hub());
        Check.due("no towns", NONE, new LuckCrates().hub());
        Check.due("one town", 0, Texts.told("town 0 0 0 0;").hub());
        Check.due("two towns", 0, Texts.told("town 0 0 0 0;town 0 0 0 0;way 1 0 9 9;").hub());
        Check.due("two towns without a way", NONE, Texts.told("town 0 0 0 0;town 0 0 0 0;").hub());
        Check.due("the last", 3, Texts.told(FOUR + "way 3 0 1 0;way 3 1 2 0;way 3 2 2 0;").hub());
    }

    private static void bridge() {
        LuckCrates x = Texts.told(FOUR + "town 0 0 0 0;" + WAYS);
        boolean[] due = {false, false, false, true};
        for (int w = 0; w < 4; w++) {
            Check.due("bridge(" + w + ")", due[w], x.bridge(w));
        }
        Check.noSuch("no such way", () -> x.bridge(4));
        Check.noSuch("none below", () -> x.bridge(-1));
        Check.due("a way alone", true, Texts.told(FOUR + "way 3 2 1 1;").bridge(0));
    }

    private static void aLongRow() {
        LuckCrates x = Texts.told("town 0 0 0 0;".repeat(8)
                + "way 6 7 9 9;way 5 6 9 9;way 4 5 9 9;way 3 4 9 9;way 2 3 9 9;way 1 2 9 9;way 0 1 9 9;");
        rows(x, 0, 7, 0, 1, 2, 3, 4, 5, 6, 7);
        Check.due("its days", 63, x.far(0, 7));
        Check.due("its leak", 567, x.leak(7, 0));
        Check.due("its hub", 3, x.hub());
        for (int w = 0; w < 7; w++) {
            Check.due("all are bridges", true, x.bridge(w));
        }
        LuckCrates ring = Texts.told("town 0 0 0 0;".repeat(8) + "way 6 7 1 0;way 5 6 1 0;way 4 5 1 0;way 3 4 1 0;"
                + "way 2 3 1 0;way 1 2 1 0;way 0 1 1 0;way 0 7 1 0;");
        for (int w = 0; w < 8; w++) {
            Check.due("none is a bridge", false, ring.bridge(w));
        }
        rows(ring, 0, 4, 0, 1, 2, 3, 4);
        rows(ring, 4, 0, 4, 3, 2, 1, 0);
    }
}
