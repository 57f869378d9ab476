/** Promises 5 to 13: what is, the acts, and what is undone. */
public final class StateTest {
    static final String LAND = "town 40 5 2 4;town 0 30 0 10;town 100 0 5 6;way 0 1 2 3;way 1 2 1 9;"
            + "crate 50 0;crate 20 0 cat;ballast 30 0;crate 60 2;";

    public static void main(String[] args) {
        counts();
        towns();
        crates();
        aDay();
        mostLuck();
        days();
        send();
        leaks();
        open();
        cat();
        mix();
        undo();
        mostActs();
        Check.end();
    }

    private static void counts() {
        LuckCrates x = Texts.told(LAND);
        x.days(1);
        x.send(3, 1);
        x.open(0);
        x.see(0, 0, 1);
        x.see(0, 0, -1);
        x.open(0);
        x.open(0);
        Texts.feed(x, "odds ?");
        x.province(6);
        Texts.feed(x, "more");
        int[] due = {3, 2, 4, 1, 33 + 50 + 99, 25, 4 - 10 + 6, 6, 8, 1, 3, 1, 20, 1, 2, 1};
        for (int what = 0; what < due.length; what++) {
            Check.due("count(" + what + ")", due[what], x.count(what));
        }
        Check.noSuch("count(16)", () -> x.count(16));
        Check.noSuch("count(-1)", () -> x.count(-1));
    }

    private static void towns() {
        LuckCrates x = Texts.told(LAND);
        int[][] due = {{40, 5, 2, 4, 0, 10, 7}, {0, 30, 0, 10, 0, 3, 0}, {100, 0, 5, 6, 0, 12, 8}};
        for (int t = 0; t < 3; t++) {
            for (int what = 0; what <= 6; what++) {
                Check.due("town(" + t + ", " + what + ")", due[t][what], x.town(t, what));
            }
        }
        x.days(1);
        Check.due("WON of a town that wins", 4, x.town(0, 4));
        Check.due("WON of a town that loses", -10, x.town(1, 4));
        x.send(0, 0);
        Check.due("one on a way lies in no town", 6, x.town(0, 6));
        Check.due("nor where it goes", 0, x.town(1, 6));
        Check.noSuch("town(3, 0)", () -> x.town(3, 0));
        Check.noSuch("town(-1, 0)", () -> x.town(-1, 0));
        Check.noSuch("town(0, 7)", () -> x.town(0, 7));
        Check.noSuch("town(0, -1)", () -> x.town(0, -1));
    }

    private static void crates() {
        LuckCrates x = Texts.told(LAND);
        int[][] due = {{50, 0, 0, 0, 0}, {20, 0, 1, 0, 0}, {30, 1, 0, 0, 0}, {60, 0, 0, 2, 0}};
        for (int c = 0; c < 4; c++) {
            for (int what = 0; what <= 4; what++) {
                Check.due("crate(" + c + ", " + what + ")", due[c][what], x.crate(c, what));
            }
        }
        x.send(0, 0);
        Check.due("the town to which it goes", 1, x.crate(0, 3));
        Check.due("DAYS to go", 2, x.crate(0, 4));
        x.send(3, 1);
        Check.due("DAYS to go of another one", 1, x.crate(3, 4));
        x.open(2);
        Check.due("an opened one is empty", 0, x.crate(2, 0));
        Check.due("and gone", LuckCrates.NONE, x.crate(2, 3));
        Check.due("with no way to go", 0, x.crate(2, 4));
        Check.noSuch("crate(4, 0)", () -> x.crate(4, 0));
        Check.noSuch("crate(-1, 0)", () -> x.crate(-1, 0));
        Check.noSuch("crate(0, 5)", () -> x.crate(0, 5));
        Check.noSuch("crate(0, -1)", () -> x.crate(0, -1));
    }

    private static void day(String town, int luck, int bad, int won) {
        LuckCrates x = Texts.told(town);
        x.days(1);
        Check.due("LUCK behind a day of " + town, luck, x.town(0, 0));
        Check.due("BAD behind a day of " + town, bad, x.town(0, 1));
        Check.due("WON behind a day of " + town, won, x.town(0, 4));
    }

    private static void aDay() {
        day("town 40 5 2 4;", 33, 0, 4);
        day("town 9 0 1 5;", 5, 0, 5);
        day("town 9 0 0 5;", 11, 0, -5);
        day("town 3 0 0 20;odds 7;", 0, 0, 20);
        day("town 3 0 0 20;odds 6;", 13, 0, -20);
        day("town 0 0 0 7;odds 0;", 3, 0, -7);
        day("town 0 0 0 1;odds 0;", 0, 0, -1);
        day("town 10 4 0 0;odds 7;", 6, 0, 0);
        day("town 4 10 0 0;odds 7;", 0, 6, 0);
        day("town 4 4 0 0;odds 7;", 0, 0, 0);
        day("town 4 20 10 2;odds 6;", 0, 5, -2);
        day("town 4 20 10 2;odds 7;", 0, 8, 2);
        day("town 0 10 10 1;odds bad;", 0, 1, 1);
        day("town 0 0 10 1;odds luck;", 9, 0, 1);
    }

    private static void mostLuck() {
        LuckCrates x = Texts.told("town 999 0 20 20;town 999 0 20 2;town 999 0 20 0;crate 99 0;odds 12 * (stake = 20);");
        for (int i = 0; i < 15; i++) {
            x.days(30);
        }
        Check.due("no more by what it makes than it stakes", 999, x.town(0, 0));
        Check.due("LUCK by half of STAKE, 9999 at most", 9999, x.town(1, 0));
        Check.due("LUCK by MAKES alone", 9999, x.town(2, 0));
        x.days(1);
        Check.due("LUCK stays 9999", 9999, x.town(1, 0));
        Check.due("LUCK stays 9999 too", 9999, x.town(2, 0));
        LuckCrates y = Texts.told("town 999 0 20 20;crate 99 0;crate 98 0;odds 0;");
        for (int i = 0; i < 10; i++) {
            y.days(30);
        }
        Check.due("LUCK by thirty a day", 9999, y.town(0, 0));
        Check.due("opened GRAINS are told whole", 99, y.open(0));
        Check.due("but LUCK is 9999 at most", 9999, y.town(0, 0));
    }

    private static void days() {
        LuckCrates x = Texts.told(LAND);
        Check.due("days(0)", LuckCrates.NONE, x.days(0));
        Check.due("days(-1)", LuckCrates.NONE, x.days(-1));
        Check.due("days(31)", LuckCrates.NONE, x.days(31));
        Check.due("days(most)", LuckCrates.NONE, x.days(Integer.MAX_VALUE));
        Check.due("refused acts", 4, x.count(14));
        Check.due("none is kept", 0, x.count(10));
        Check.due("the DAY stays", 0, x.count(3));
        for (int i = 1; i <= 33; i++) {
            Check.due("days(30)", 30 * i, x.days(30));
        }
        Check.due("above 999", LuckCrates.NONE, x.days(10));
        Check.due("to 999", 999, x.days(9));
        Check.due("above 999 by one", LuckCrates.NONE, x.days(1));
        Check.due("refused acts then", 6, x.count(14));
        Check.due("an act for each", 34, x.count(10));
        Check.due("without towns too", 7, new LuckCrates().days(7));
    }

    private static void send() {
        LuckCrates x = Texts.told(LAND);
        Check.noSuch("no such crate", () -> x.send(4, 0));
        Check.noSuch("no such crate below", () -> x.send(-1, 0));
        Check.noSuch("no such way", () -> x.send(0, 2));
        Check.noSuch("no such way below", () -> x.send(0, -1));
        Check.due("a way that isn't from there", LuckCrates.NONE, x.send(0, 1));
        Check.due("sent", 1, x.send(0, 0));
        Check.due("on a way already", LuckCrates.NONE, x.send(0, 0));
        Check.noSuch("no such way comes ahead", () -> x.send(0, 2));
        Check.due("sent from the other end", 1, x.send(3, 1));
        Check.due("refused", 2, x.count(14));
        x.days(1);
        Check.due("sent on", 2, x.send(3, 1));
        x.open(2);
        Check.due("gone", LuckCrates.NONE, x.send(2, 0));
        Check.due("kept", 5, x.count(10));
        x.days(1);
        Check.due("it lies where it came", 1, x.crate(0, 3));
        Check.due("bits there", 1, x.town(1, 6));
    }

    private static void leaks() {
        LuckCrates x = Texts.told("town 0 0 0 0;town 0 0 0 0;way 0 1 5 4;crate 10 0;crate 10 0 cat;crate 10 0;");
        x.send(0, 0);
        x.send(1, 0);
        x.send(2, 0);
        x.days(1);
        Check.due("a day's leak", 6, x.crate(0, 0));
        Check.due("none with a cat", 10, x.crate(1, 0));
        x.cat(2, true);
        x.cat(1, false);
        x.days(2);
        Check.due("not below 0", 0, x.crate(0, 0));
        Check.due("the cat was taken out", 2, x.crate(1, 0));
        Check.due("a cat was put in", 6, x.crate(2, 0));
        Check.due("DAYS to go", 2, x.crate(0, 4));
        x.days(2);
        Check.due("all have come", 7, x.town(1, 6));
        x.cat(2, false);
        x.days(3);
        Check.due("one that lies doesn't leak", 6, x.crate(2, 0));
        x.days(2);
        Check.due("nor has less than none to go", 0, x.crate(0, 4));
    }

    private static void open() {
        LuckCrates x = Texts.told(LAND);
        Check.noSuch("no such crate", () -> x.open(4));
        Check.noSuch("no such crate below", () -> x.open(-1));
        Check.due("luck", 50, x.open(0));
        Check.due("comes to LUCK", 90, x.town(0, 0));
        Check.due("ballast", 30, x.open(2));
        Check.due("comes to BAD", 35, x.town(0, 1));
        Check.due("LUCK stays", 90, x.town(0, 0));
        Check.due("opened already", LuckCrates.NONE, x.open(0));
        x.send(1, 0);
        Check.due("on a way", LuckCrates.NONE, x.open(1));
        Check.due("refused", 2, x.count(14));
        Check.due("gone", 5, x.count(9));
        x.days(2);
        Check.due("opened where it came", 20, x.open(1));
        Check.due("there", 20, x.town(1, 0));
        LuckCrates y = Texts.told("town 0 0 0 0;crate 0 0;");
        Check.due("an empty one", 0, y.open(0));
        Check.due("is gone too", 1, y.count(9));
    }

    private static void cat() {
        LuckCrates x = Texts.told(LAND);
        Check.noSuch("no such crate", () -> x.cat(4, true));
        Check.noSuch("no such crate below", () -> x.cat(-1, false));
        Check.due("put in", true, x.cat(0, true));
        Check.due("it has one", 1, x.crate(0, 2));
        Check.due("it is so already", false, x.cat(0, true));
        Check.due("taken out", true, x.cat(1, false));
        Check.due("it has none", 0, x.crate(1, 2));
        Check.due("it is so already too", false, x.cat(1, false));
        x.send(1, 0);
        Check.due("on a way", true, x.cat(1, true));
        x.open(2);
        Check.due("gone", false, x.cat(2, true));
        Check.due("refused", 3, x.count(14));
        Check.due("kept", 5, x.count(10));
    }

    private static void mixed(String crates, int grains, int ballast) {
        LuckCrates x = Texts.told("town 0 0 0 0;" + crates);
        Check.due("mix of " + crates, grains, x.mix(0, 1));
        Check.due("GRAINS of " + crates, grains, x.crate(0, 0));
        Check.due("sort of " + crates, ballast, x.crate(0, 1));
        Check.due("the second one is gone: " + crates, 2, x.count(9));
        Check.due("it is nowhere: " + crates, LuckCrates.NONE, x.crate(1, 3));
    }

    private static void mix() {
        mixed("crate 20 0;crate 30 0;", 50, 0);
        mixed("ballast 20 0;ballast 30 0;", 50, 1);
        mixed("crate 60 0;crate 40 0;", 99, 0);
        mixed("crate 60 0;crate 39 0;", 99, 0);
        mixed("crate 20 0;ballast 30 0;", 10, 1);
        mixed("crate 30 0;ballast 20 0;", 10, 0);
        mixed("ballast 20 0;crate 30 0;", 10, 0);
        mixed("ballast 30 0;crate 20 0;", 10, 1);
        mixed("crate 20 0;ballast 20 0;", 0, 0);
        mixed("ballast 20 0;crate 20 0;", 0, 1);
        mixed("crate 0 0;ballast 0 0;", 0, 0);
        LuckCrates x = Texts.told(LAND);
        Check.noSuch("no such crate", () -> x.mix(4, 0));
        Check.noSuch("no such other crate", () -> x.mix(0, 4));
        Check.noSuch("none below", () -> x.mix(0, -1));
        Check.due("both are one", LuckCrates.NONE, x.mix(0, 0));
        Check.due("in two towns", LuckCrates.NONE, x.mix(0, 3));
        x.send(1, 0);
        Check.due("one on a way", LuckCrates.NONE, x.mix(1, 0));
        Check.due("the other on a way", LuckCrates.NONE, x.mix(0, 1));
        x.send(0, 0);
        Check.due("both on a way", LuckCrates.NONE, x.mix(0, 1));
        x.open(2);
        Check.due("gone", LuckCrates.NONE, x.mix(2, 2));
        LuckCrates y = Texts.told("town 0 0 0 0;town 0 0 0 0;way 0 1 2 0;crate 1 1;ballast 5 1;crate 2 0;crate 9 1;");
        y.send(2, 0);
        Check.due("one that goes where the other lies", LuckCrates.NONE, y.mix(2, 0));
        Check.due("one that lies where the other goes", LuckCrates.NONE, y.mix(0, 2));
        Check.due("not the first two", 4, y.mix(3, 1));
        Check.due("its sort", 0, y.crate(3, 1));
        Check.due("mixed on", 5, y.mix(3, 0));
        Check.due("refused", 6, x.count(14));
        Check.due("kept", 3, x.count(10));
        x.days(2);
        Check.due("mixed where they came", 64, x.mix(0, 1));
        Check.due("the first one's cat", 0, x.crate(0, 2));
    }

    private static int[] all(LuckCrates x) {
        int[] all = new int[10 + 7 * x.count(0) + 5 * x.count(2)];
        int i = 0;
        for (int what = 0; what <= 9; what++) {
            all[i++] = x.count(what);
        }
        for (int t = 0; t < x.count(0); t++) {
            for (int what = 0; what <= 6; what++) {
                all[i++] = x.town(t, what);
            }
        }
        for (int c = 0; c < x.count(2); c++) {
            for (int what = 0; what <= 4; what++) {
                all[i++] = x.crate(c, what);
            }
        }
        return all;
    }

    private static void undo() {
        LuckCrates x = Texts.told(LAND);
        Check.due("none to undo", LuckCrates.NONE, x.undo());
        int[][] was = new int[8][];
        was[0] = all(x);
        x.send(0, 0);
        was[1] = all(x);
        x.days(3);
        was[2] = all(x);
        x.open(0);
        was[3] = all(x);
        x.cat(1, false);
        was[4] = all(x);
        x.mix(1, 2);
        was[5] = all(x);
        x.cat(1, true);
        was[6] = all(x);
        x.days(30);
        x.open(0);
        x.see(0, 1, 1);
        for (int i = 6; i >= 0; i--) {
            Check.due("left", i, x.undo());
            Check.due("as it was ahead of act " + i, true, java.util.Arrays.equals(was[i], all(x)));
        }
        Check.due("no more", LuckCrates.NONE, x.undo());
        Check.due("what is SEEN stays", 1, x.count(11));
        Check.due("what was refused stays", 1, x.count(14));
    }

    private static void mostActs() {
        LuckCrates x = Texts.told("town 0 0 0 0;");
        for (int i = 1; i <= 45; i++) {
            x.days(1);
            Check.due("acts that are kept", Math.min(40, i), x.count(10));
        }
        for (int i = 39; i >= 0; i--) {
            Check.due("left", i, x.undo());
            Check.due("the DAY", 5 + i, x.count(3));
        }
        Check.due("the oldest ones are lost", LuckCrates.NONE, x.undo());
        Check.due("the DAY stays", 5, x.count(3));
        x.days(30);
        Check.due("and on", 35, x.count(3));
        Check.due("and back", 0, x.undo());
        Check.due("there", 5, x.count(3));
    }
}
