/** Promises 24 to 27: what is seen, and what it tells. */
public final class SeenTest {
    private static final int NONE = LuckCrates.NONE;
    private static final String STILL = "town 10 0 0 0;town 5 0 0 0;way 0 1 3 0;crate 4 0;ballast 3 1;crate 4 1;odds 0;";

    public static void main(String[] args) {
        see();
        forget();
        opened();
        openedOnTheDay();
        openedOnlyOnceInTime();
        next();
        nextByRows();
        fromNow();
        Check.end();
    }

    private static void see() {
        LuckCrates x = Texts.told(STILL);
        Check.noSuch("no such town", () -> x.see(2, 0, 0));
        Check.noSuch("no such town below, ahead of the rest", () -> x.see(-1, 31, -1));
        Check.due("days below", NONE, x.see(0, -1, 0));
        Check.due("days above", NONE, x.see(0, 31, 0));
        Check.due("luck below", NONE, x.see(0, 0, -1));
        Check.due("luck above", NONE, x.see(0, 0, 10000));
        Check.due("refused", 4, x.count(15));
        Check.due("no act is refused", 0, x.count(14));
        Check.due("none is seen", 0, x.count(11));
        for (int i = 1; i <= 8; i++) {
            Check.due("seen", i, x.see(i % 2, i % 2 * 30, i % 3 * 4999));
            Check.due("so many", i, x.count(11));
        }
        Check.due("there are 8", NONE, x.see(0, 0, 0));
        Check.due("still 8", 8, x.count(11));
        Check.due("refused then", 5, x.count(15));
        Check.noSuch("no such town of 8", () -> x.see(2, 0, 0));
        Check.due("the most luck", 1, Texts.told(STILL).see(0, 0, 9999));
        Check.due("no act", 0, x.count(10));
    }

    private static void forget() {
        LuckCrates x = Texts.told(STILL);
        x.see(0, 0, 9999);
        Check.due("nothing fits", 0, x.opened(2));
        x.forget();
        Check.due("none is seen", 0, x.count(11));
        Check.due("all fits", 1, x.opened(2));
        Check.due("seen anew", 1, x.see(0, 0, 10));
        new LuckCrates().forget();
    }

    private static void openings(LuckCrates x, int many, int first, int without) {
        Check.due("how many", many, x.opened(0));
        Check.due("the first", first, x.opened(1));
        Check.due("without", without, x.opened(2));
    }

    private static void opened() {
        LuckCrates x = Texts.told(STILL);
        openings(x, 30, 0, 1);
        x.see(0, 3, 14);
        openings(x, 4, 0, 0);
        x.see(0, 1, 10);
        openings(x, 2, 2, 0);
        x.see(1, 0, 9999);
        openings(x, 0, NONE, 0);
        x.forget();
        x.see(1, 30, 9);
        openings(x, 10, 20, 0);
        x.see(0, 30, 10);
        openings(x, 10, 20, 0);
        x.see(0, 9, 14);
        openings(x, 0, NONE, 0);
        x.forget();
        x.see(1, 5, 2);
        openings(x, 5, 10, 0);
        x.forget();
        x.see(1, 5, 5);
        openings(x, 10 + 5 + 4, 0, 1);
        Check.noSuch("no such thing", () -> x.opened(3));
        Check.noSuch("no such thing below", () -> x.opened(-1));
        openings(new LuckCrates(), 0, NONE, 1);
        LuckCrates y = Texts.told(STILL);
        openings(y, 30, 0, 1);
        y.send(0, 0);
        openings(y, 20, 10, 1);
        y.open(1);
        openings(y, 10, 20, 1);
        y.open(2);
        openings(y, 0, NONE, 1);
    }

    /** On a day: ahead of what it does, behind an opening on it. */
    private static void openedOnTheDay() {
        LuckCrates x = Texts.told("town 0 0 10 0;crate 5 0;odds 0;");
        x.see(0, 2, 25);
        openings(x, 3, 0, 0);
        x.see(0, 2, 25);
        x.see(0, 1, 10);
        openings(x, 1, 2, 0);
        x.forget();
        x.see(0, 0, 5);
        openings(x, 1, 0, 0);
        x.forget();
        x.see(0, 9, 95);
        x.see(0, 8, 80);
        openings(x, 1, 9, 0);
        x.forget();
        x.see(0, 10, 100);
        openings(x, 0, NONE, 1);
    }

    private static void openedOnlyOnceInTime() {
        LuckCrates x = Texts.told("town 0 0 0 1;crate 5 0;crate 9 0;odds (0 < luck and crates = 1) * 7;");
        x.see(0, 4, 2);
        openings(x, 1, 1, 0);
        x.see(0, 2, 5);
        openings(x, 0, NONE, 0);
        LuckCrates y = Texts.told("town 999 0 0 0;crate 99 0;crate 9 0;odds 0;");
        y.see(0, 0, 1098);
        openings(y, 1, 0, 0);
        LuckCrates z = Texts.told(StateTest.LAND);
        z.see(0, 1, 33);
        openings(z, 35, 2, 1);
    }

    private static void nexts(LuckCrates x, int day, int many) {
        Check.due("the next day", day, x.next(0));
        Check.due("how many", many, x.next(1));
    }

    private static void next() {
        LuckCrates x = Texts.told(STILL);
        nexts(x, 1, 4);
        x.see(0, 3, 14);
        nexts(x, 0, 2);
        x.see(0, 1, 10);
        nexts(x, 2, 2);
        x.see(0, 2, 14);
        nexts(x, 0, 1);
        x.see(0, 2, 15);
        nexts(x, NONE, 0);
        Check.noSuch("no such thing", () -> x.next(2));
        Check.noSuch("no such thing below", () -> x.next(-1));
        nexts(new LuckCrates(), NONE, 0);
        nexts(Texts.told("town 1 1 1 1;"), NONE, 0);
    }

    /** Rows are alike if the luck of each town is, not if there is as much in all. */
    private static void nextByRows() {
        nexts(Texts.told("town 0 0 0 0;town 0 0 0 0;crate 7 0;crate 7 1;odds 0;"), 0, 3);
        nexts(Texts.told("town 0 0 0 0;town 0 0 0 0;crate 7 0;crate 7 0;odds 0;"), 0, 2);
        nexts(Texts.told("town 0 0 0 0;crate 7 0;crate 0 0;odds 0;"), 0, 2);
        nexts(Texts.told("town 0 0 0 0;crate 0 0;odds 0;"), 0, 1);
        nexts(Texts.told("town 9 0 0 0;ballast 5 0;odds 0;"), 1, 2);
        nexts(Texts.told("town 0 0 0 1;crate 30 0;odds (0 < luck) * 7;"), 8, 10);
        nexts(Texts.told("town 0 0 0 20;ballast 5 0;ballast 7 0;odds (day < 29) * 7;"), 30, 2);
        nexts(Texts.told("town 0 0 0 20;ballast 5 0;ballast 7 0;odds (day < 30) * 7;"), 0, 1);
        LuckCrates late = Texts.told("town 0 0 0 2;crate 1 0;odds (day = 29) * (crates = 1) * 7;");
        late.see(0, 0, 0);
        nexts(late, 1, 2);
        LuckCrates last = Texts.told("town 20 0 0 2;crate 0 0;odds (day < 29 or crates = 1) * 7;");
        nexts(last, 0, 1);
    }

    private static void fromNow() {
        LuckCrates x = Texts.told("town 0 0 10 0;crate 5 0;odds 0;");
        x.see(0, 1, 10);
        Check.due("it is so", 1, x.opened(2));
        x.days(1);
        Check.due("a day on it is told from then", 0, x.opened(2));
        Check.due("it stays seen", 1, x.count(11));
        x.forget();
        x.see(0, 1, 20);
        Check.due("so it would be", 1, x.opened(2));
        x.undo();
        Check.due("behind undo no more", 0, x.opened(2));
    }
}
