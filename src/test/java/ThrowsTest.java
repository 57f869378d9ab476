/** Promises 22 and 23: the thrower, and when to stop. */
public final class ThrowsTest {
    private static final LuckCrates X = new LuckCrates();

    public static void main(String[] args) {
        thrower();
        stop();
        Check.end();
    }

    private static void thrower() {
        int[][] due = {{1, 6, 2, 0, 0}, {2, 6, 2, 0, 1}, {20, 0, 1, 7, 35831808}, {0, 12, 1, 7, 0}, {1, 6, 2, 1, 6},
            {1, 6, 2, 2, 72}, {1, 4, 3, 3, 192}, {2, 6, 4, 2, 36}, {2, 5, 3, 3, 5 * 144 + 7 * 5 * 5}, {13, 12, 20, 7, 35831808},
            {12, 12, 20, 7, 0}, {3, 0, 4, 7, 0}, {1, 12, 20, 7, 0}, {19, 1, 20, 1, 1}, {1, 1, 2, 7, 12 * 12 * 12 * 12 * 12 * 12}};
        for (int[] d : due) {
            Check.due("thrower" + java.util.Arrays.toString(d), d[4], X.thrower(d[0], d[1], d[2], d[3]));
        }
        int[][] wrong = {{-1, 6, 2, 1}, {21, 6, 2, 1}, {1, -1, 2, 1}, {1, 13, 2, 1}, {1, 6, 0, 1}, {1, 6, 21, 1},
            {1, 6, 2, -1}, {1, 6, 2, 8}, {Integer.MIN_VALUE, 6, 2, 1}, {1, 6, 2, Integer.MAX_VALUE}};
        for (int[] w : wrong) {
            Check.illegal("thrower" + java.util.Arrays.toString(w), () -> X.thrower(w[0], w[1], w[2], w[3]));
        }
    }

    private static void stops(int grains, int twelfths, int throwing, int much, int first) {
        String name = grains + " grains, " + twelfths + " twelfths, " + throwing + " throws";
        Check.due("how much with " + name, much, X.stop(grains, twelfths, throwing, 0));
        Check.due("whether first with " + name, first, X.stop(grains, twelfths, throwing, 1));
    }

    private static void stop() {
        stops(0, 12, 7, 0, 0);
        stops(1, 6, 1, 12, 0);
        stops(1, 7, 1, 14, 1);
        stops(1, 5, 1, 12, 0);
        stops(2, 3, 2, 288, 0);
        stops(20, 12, 7, 27 * 35831808, 1);
        stops(20, 0, 7, 20 * 35831808, 0);
        stops(5, 6, 3, 5 * 1728, 0);
        stops(2, 8, 2, 8 * (8 * 4 + 4 * 2) + 4 * (8 * 2), 1);
        stops(1, 7, 2, 7 * (7 * 3 + 5 * 1), 1);
        stops(3, 7, 2, 7 * (7 * 5 + 5 * 3) + 5 * (7 * 3 + 5 * 1), 1);
        Check.noSuch("no such thing", () -> X.stop(1, 6, 1, 2));
        Check.noSuch("ahead of the rest", () -> X.stop(21, 13, 8, -1));
        int[][] wrong = {{-1, 6, 1}, {21, 6, 1}, {1, -1, 1}, {1, 13, 1}, {1, 6, 0}, {1, 6, 8}, {1, 6, -1}};
        for (int[] w : wrong) {
            Check.illegal("stop" + java.util.Arrays.toString(w), () -> X.stop(w[0], w[1], w[2], 0));
            Check.illegal("stop first" + java.util.Arrays.toString(w), () -> X.stop(w[0], w[1], w[2], 1));
        }
    }
}
