/** Promises 30, 31, 41, 42: a game of two towns, years by a seed, the image. */
public final class GamesTest {
    private static final int NONE = LuckCrates.NONE;

    public static void main(String[] args) {
        game();
        gameEdges();
        years();
        thefts();
        yearsEdges();
        image();
        imageOfActs();
        Check.end();
    }

    private static void plays(String land, int many, int first) {
        LuckCrates x = Texts.told(land);
        Check.due("couples of " + land, many, x.game(0, 1, 0));
        Check.due("the first of " + land, first, x.game(0, 1, 1));
    }

    private static void game() {
        String two = "town 100 0 0 1;town 100 0 0 1;";
        plays(two + "odds 7 * (94 < luck);", 1, 0);
        plays(two + "odds 7 * (luck < 95);", 3, 1);
        plays(two + "odds 7;", 4, 0);
        plays("town 100 0 0 1;town 100 0 0 3;odds 7 * ((stake = 1) = (94 < luck and luck < 106));", 0, NONE);
        plays("town 100 0 0 1;town 100 0 0 3;odds 7 * (luck < 95) * (stake = 1);", 3, 1);
        plays("town 100 0 0 1;town 100 0 0 3;odds 7 * (luck < 95) * (stake = 3);", 3, 1);
        plays("town 99 0 0 1;town 9 0 0 1;odds 7 * (89 < luck and luck < 91);", 2, 10);
        plays("town 9 0 0 1;town 99 0 0 1;odds 7 * (89 < luck and luck < 91);", 2, 1);
        plays("town 109 0 0 1;town 0 0 0 1;odds 7 * (luck = 99);", 2, 10);
        plays("town 109 0 0 1;town 20 0 0 1;odds 7 * (luck = 28 or luck = 101);", 2, 0);
        LuckCrates x = Texts.told("town 0 0 0 0;town 99 0 0 1;town 9 0 0 1;odds 7 * (89 < luck and luck < 91);");
        Check.due("told from the other end", 1, x.game(2, 1, 1));
        Check.due("and from this one", 10, x.game(1, 2, 1));
    }

    private static void gameEdges() {
        LuckCrates x = Texts.told("town 100 0 0 1;town 100 0 0 1;");
        Check.noSuch("no such town", () -> x.game(2, 0, 0));
        Check.noSuch("no such other town", () -> x.game(0, 2, 0));
        Check.noSuch("no such thing", () -> x.game(0, 1, 2));
        Check.noSuch("no such thing below", () -> x.game(0, 1, -1));
        Check.noSuch("ahead of both being one", () -> x.game(0, 0, 2));
        Check.noSuch("no such town twice", () -> x.game(2, 2, 0));
        Check.illegal("both are one", () -> x.game(0, 0, 0));
        Check.illegal("both are the other one", () -> x.game(1, 1, 1));
        // Ten days: what comes behind them counts for nothing.
        plays("town 100 0 0 1;town 100 0 0 1;odds 7 * (day = 9) * (94 < luck);", 2, 0);
        plays("town 100 0 0 1;town 100 0 0 1;odds 7 * (day = 10) * (94 < luck);", 4, 0);
        LuckCrates most = Texts.told("town 999 0 20 20;town 999 0 20 20;odds 7 * (day = 305) * (luck < 9999);");
        for (int i = 0; i < 10; i++) {
            most.days(30);
        }
        Check.due("LUCK is 9999", 9999, most.town(0, 0));
        Check.due("LUCK 9999 at most", 3, most.game(0, 1, 0));
    }

    private static void passes(LuckCrates x, int seed, int n, int... due) {
        for (int what = 0; what <= 2; what++) {
            Check.due("years(" + seed + ", " + n + ", " + what + ")", due[what], x.years(seed, n, what));
        }
    }

    private static void years() {
        LuckCrates x = Texts.told("town 50 0 0 3;town 0 20 4 7;crate 1 0;crate 2 0;crate 3 1;");
        passes(x, 0, 0, 0, 50, 0);
        passes(x, 0, 1, 10, 47, 1);
        passes(x, 0, 2, 20, 44, 1);
        passes(x, 0, 3, 16, 41, 1);
        passes(x, 0, 10, 4, 47, 1);
        passes(x, 0, 60, 116, 41, 2);
        passes(x, 1, 60, 138, 17, 3);
        passes(x, -7, 60, 124, 34, 2);
        passes(x, Integer.MAX_VALUE, 60, 90, 54, 3);
        passes(x, 123456789, 33, 70, 20, 2);
        LuckCrates none = Texts.told("town 50 0 0 3;");
        passes(none, 0, 1, 3, 47, 0);
        passes(none, 0, 60, 12, 1, 0);
        passes(none, 5, 60, 42, 2, 0);
        passes(new LuckCrates(), 5, 60, 0, 0, 0);
    }

    /** The seed 0 gives a DRAW of 9 that is 0, then one of the crates (0 of one), then 4 of 12. */
    private static void thefts() {
        String two = "town 0 0 0 1;town 0 0 0 0;way 0 1 1 0;";
        LuckCrates x = Texts.told(two + "crate 5 0;odds crates * 12;");
        passes(x, 0, 1, -1, 0, 1);
        x.send(0, 0);
        passes(x, 0, 1, -1, 0, 0);
        x.days(1);
        x.open(0);
        passes(x, 0, 1, -2, 5, 1);
        LuckCrates four = Texts.told("town 0 0 0 1;odds 4;");
        passes(four, 0, 1, 1, 0, 0);
        LuckCrates stolen = Texts.told("town 0 0 0 1;crate 9 0;odds 4;");
        passes(stolen, 0, 1, -1, 0, 1);
        passes(Texts.told("town 0 0 0 1;crate 9 0;odds 5;"), 0, 1, 1, 0, 1);
    }

    private static void yearsEdges() {
        LuckCrates x = Texts.told("town 50 0 0 3;");
        Check.illegal("-1 days", () -> x.years(0, -1, 0));
        Check.illegal("61 days", () -> x.years(0, 61, 2));
        Check.noSuch("no such thing", () -> x.years(0, 1, 3));
        Check.noSuch("no such thing below", () -> x.years(0, 1, -1));
        Check.noSuch("ahead of days", () -> x.years(0, 61, 3));
        // The seed 2 steals nothing on the first days; less than 12 is always drawn.
        LuckCrates moving = Texts.told("town 0 0 0 1;town 0 0 0 1;way 0 1 2 0;crate 5 0;odds crates * 12;");
        moving.send(0, 0);
        Check.due("on its way", -2, moving.years(2, 1, 0));
        Check.due("it comes", -2, moving.years(2, 2, 0));
        Check.due("it lies there", -2, moving.years(2, 3, 0));
        Check.due("by the DAY", 1, Texts.told("town 0 0 0 1;odds day * 12;").years(2, 3, 0));
        LuckCrates most = Texts.told("town 999 0 20 20;crate 1 0;odds 0;");
        most.days(30);
        Check.due("from now on", -20 * 60, most.years(3, 30, 0));
        Check.due("its LUCK", 999 + 30 * 60, most.years(3, 30, 1));
    }

    private static void image() {
        LuckCrates x = Texts.told(StateTest.LAND);
        Check.due("no image", false, x.restore());
        x.days(2);
        x.send(0, 0);
        x.see(0, 1, 1);
        x.image();
        int[] was = new int[12];
        for (int what = 0; what < 12; what++) {
            was[what] = x.count(what);
        }
        x.days(5);
        x.open(1);
        x.cat(0, true);
        x.see(1, 1, 1);
        x.see(1, 31, 1);
        x.open(1);
        for (int twice = 0; twice < 2; twice++) {
            Check.due("restored", true, x.restore());
            for (int what = 0; what < 12; what++) {
                Check.due("count(" + what + ") of the image", was[what], x.count(what));
            }
            Check.due("its crate", 2, x.crate(0, 4));
            Check.due("its cat", 0, x.crate(0, 2));
            Check.due("its odds", 9, x.town(0, 5));
            x.forget();
            x.days(3);
        }
        Check.due("STATUS stays", 1, x.count(14));
        Check.due("STATUS stays too", 1, x.count(15));
        x.image();
        x.days(1);
        x.restore();
        Check.due("in place of the other one", 5, x.count(3));
    }

    private static void imageOfManyActs() {
        LuckCrates x = Texts.told("town 10 0 0 0;town 20 0 0 0;odds 0;");
        for (int i = 0; i < 45; i++) {
            x.days(1);
        }
        x.see(1, 3, 20);
        x.image();
        for (int i = 0; i < 7; i++) {
            x.days(2);
        }
        x.forget();
        x.see(0, 4, 11);
        Check.due("it isn't so", 0, x.opened(2));
        x.restore();
        Check.due("it is so again", 1, x.opened(2));
        for (int i = 39; i >= 0; i--) {
            Check.due("left of the image's acts", i, x.undo());
            Check.due("its DAY", 5 + i, x.count(3));
        }
        Check.due("no more", NONE, x.undo());
        x.restore();
        Check.due("once more", 39, x.undo());
        Check.due("the DAY once more", 44, x.count(3));
    }

    private static void imageOfSeenDays() {
        LuckCrates x = Texts.told("town 0 0 10 0;odds 0;");
        x.see(0, 3, 30);
        x.see(0, 5, 50);
        x.image();
        x.forget();
        x.see(0, 2, 30);
        x.see(0, 1, 50);
        Check.due("it isn't so", 0, x.opened(2));
        x.restore();
        Check.due("the days of the image", 1, x.opened(2));
    }

    private static void imageOfActs() {
        LuckCrates x = Texts.told(StateTest.LAND);
        x.days(1);
        x.open(0);
        x.image();
        x.undo();
        x.undo();
        x.cat(0, true);
        x.cat(0, false);
        x.cat(0, true);
        x.see(0, 7, 7);
        x.restore();
        Check.due("acts of the image", 2, x.count(10));
        Check.due("nothing seen", 0, x.count(11));
        Check.due("undone from there", 1, x.undo());
        Check.due("the crate lies again", 15, x.count(7));
        Check.due("undone to the first", 0, x.undo());
        Check.due("the first DAY", 0, x.count(3));
        Check.due("no cat", 0, x.crate(0, 2));
        Check.due("and the image is still there", true, x.restore());
        Check.due("as it was", 14, x.count(7));
        x.see(0, 1, 33);
        x.image();
        x.forget();
        x.restore();
        Check.due("what is seen is kept", 1, x.count(11));
        x.see(1, 2, 3);
        x.forget();
        x.see(2, 0, 9999);
        x.restore();
        Check.due("just what was seen", 1, x.count(11));
        Check.due("and all of it", 1, Texts.told(StateTest.LAND).opened(2));
        imageOfManyActs();
        imageOfSeenDays();
        LuckCrates empty = new LuckCrates();
        empty.image();
        empty.days(3);
        Check.due("an image of nothing", true, empty.restore());
        Check.due("is on DAY 0", 0, empty.count(3));
    }
}
