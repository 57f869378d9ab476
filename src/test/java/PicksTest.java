/** Promises 20, 21, 32, 38: which crates. */
public final class PicksTest {
    private static final int NONE = LuckCrates.NONE;

    public static void main(String[] args) {
        sending();
        hold();
        holdEdges();
        thief();
        level();
        Check.end();
    }

    private static void sending() {
        LuckCrates x = Texts.told("town 0 0 0 0;".repeat(5) + "way 0 1 2 0;way 1 2 2 9;way 0 2 4 1;way 2 3 1 0;"
                + "crate 50 0;crate 30 2 cat;ballast 90 3;crate 20 3;crate 3 0;crate 99 4 cat;");
        int[][] due = {{1, 1}, {20, 1}, {46, 1}, {47, 3}, {50, 3}, {76, 3}, {77, 11}, {96, 11}, {97, NONE}, {999, NONE}};
        for (int[] row : due) {
            Check.due("sending(3, " + row[0] + ")", row[1], x.sending(3, row[0]));
        }
        Check.due("to where it lies", 1, x.sending(0, 50));
        Check.due("a crate alone in its town", 32, x.sending(4, 99));
        Check.due("none come there", NONE, x.sending(4, 100));
        x.cat(0, true);
        Check.due("with a cat nothing is lost", 1, x.sending(3, 50));
        x.cat(0, false);
        x.send(0, 0);
        Check.due("one on a way isn't sent", 2, x.sending(3, 30));
        Check.due("so it takes two", 10, x.sending(3, 31));
        x.open(1);
        Check.due("nor one that is gone", 8, x.sending(3, 1));
        Check.illegal("0 grains", () -> x.sending(0, 0));
        Check.illegal("1000 grains", () -> x.sending(0, 1000));
        Check.noSuch("no such town", () -> x.sending(5, 1));
        Check.noSuch("ahead of grains", () -> x.sending(-1, 0));
        LuckCrates y = Texts.told("town 0 0 0 0;crate 5 0;crate 3 0;crate 5 0;crate 3 0;");
        Check.due("of as few the least as bits", 3, y.sending(0, 8));
        Check.due("the two greatest", 5, y.sending(0, 9));
        Check.due("all", 15, y.sending(0, 16));
        LuckCrates cats = Texts.told("town 0 0 0 0;town 0 0 0 0;way 0 1 9 9;crate 90 0;crate 90 0;crate 80 0 cat;");
        Check.due("a cat where the leak is great", 4, cats.sending(1, 80));
        Check.due("and what is left", 5, cats.sending(1, 89));
        LuckCrates z = Texts.told("town 0 0 0 0;" + "crate 99 0;".repeat(10));
        Check.due("ten", 1023, z.sending(0, 990));
        Check.due("no more", NONE, z.sending(0, 991));
        Check.due("none without crates", NONE, Texts.told("town 0 0 0 0;").sending(0, 1));
    }

    private static void holds(String crates, int harm, int... row) {
        LuckCrates x = Texts.told("town 0 0 0 0;town 0 0 0 0;" + crates);
        Check.due("harm of " + crates, harm, x.hold(0, NONE));
        for (int i = 0; i < row.length; i++) {
            Check.due("hold " + i + " of " + crates, row[i], x.hold(0, i));
        }
        Check.noSuch("behind the row of " + crates, () -> x.hold(0, row.length));
    }

    private static void hold() {
        holds("", 0);
        holds("crate 5 0;", 0, 0);
        holds("ballast 5 0;", 0, 0);
        holds("crate 5 0;crate 4 0;crate 3 0;", 0, 0, 1, 2);
        holds("ballast 5 0;ballast 4 0;", 0, 0, 1);
        holds("crate 5 0;ballast 9 0;", 5, 0, 1);
        holds("crate 5 0;ballast 9 0;crate 7 0;", 5, 1, 0, 2);
        holds("crate 5 0;ballast 5 0;crate 7 0;", 5, 0, 2, 1);
        holds("crate 5 0;ballast 9 0;crate 0 0;", 0, 0, 2, 1);
        holds("crate 5 0;ballast 0 0;crate 3 0;", 0, 0, 1, 2);
        holds("crate 5 0;ballast 0 0;crate 3 0;ballast 4 0;", 0, 0, 2, 1, 3);
        holds("crate 50 0;crate 20 0 cat;ballast 30 0;crate 60 1;", 20, 0, 1, 2);
        holds("crate 9 1;ballast 8 0;crate 7 1;crate 6 0;", 6, 1, 3);
        holds("crate 1 0;ballast 8 0;crate 7 0;ballast 6 0;", 1, 1, 3, 0, 2);
        holds("ballast 3 0;crate 3 0;ballast 3 0;crate 3 0;ballast 3 0;", 3, 0, 2, 4, 1, 3);
    }

    private static void holdEdges() {
        holds("crate 9 0;ballast 9 0;".repeat(5), 9, 0, 2, 4, 6, 8, 1, 3, 5, 7, 9);
        holds("crate 0 0;ballast 0 0;".repeat(5), 0, 0, 1, 2, 3, 4, 5, 6, 7, 8, 9);
        LuckCrates x = Texts.told("town 0 0 0 0;town 0 0 0 0;way 0 1 1 0;crate 5 0;ballast 9 0;crate 7 0;");
        Check.noSuch("no such town", () -> x.hold(2, 0));
        Check.noSuch("no such town below", () -> x.hold(-1, NONE));
        Check.noSuch("no such place", () -> x.hold(0, 3));
        Check.noSuch("no such place below", () -> x.hold(0, -2));
        x.send(2, 0);
        Check.due("one on a way isn't held", 0, x.hold(0, 0));
        Check.noSuch("so there are two", () -> x.hold(0, 2));
        x.open(1);
        Check.due("one that is gone isn't either", 0, x.hold(0, NONE));
    }

    private static void thief() {
        LuckCrates x = Texts.told("town 0 0 0 0;town 0 0 0 0;way 0 1 1 0;"
                + "crate 50 0;crate 20 0 cat;crate 30 0;ballast 10 0;crate 0 0;crate 45 1;");
        int[][] due = {{0, 0}, {19, 0}, {20, 2}, {49, 4}, {50, 1}, {55, 1}, {69, 1}, {70, 3}, {80, 5}, {99, 5}, {100, 7},
            {999, 7}};
        for (int[] row : due) {
            Check.due("thief(0, " + row[0] + ")", row[1], x.thief(0, row[0]));
        }
        Check.due("in the other town", 32, x.thief(1, 45));
        x.send(0, 0);
        Check.due("none that is on a way", 6, x.thief(0, 999));
        x.open(1);
        Check.due("none that is gone", 4, x.thief(0, 999));
        Check.illegal("-1 grains", () -> x.thief(0, -1));
        Check.illegal("1000 grains", () -> x.thief(0, 1000));
        Check.noSuch("no such town", () -> x.thief(2, 0));
        Check.noSuch("ahead of grains", () -> x.thief(-1, -1));
        LuckCrates y = Texts.told("town 0 0 0 0;crate 20 0;crate 10 0;crate 20 0;crate 10 0;");
        Check.due("of like ones the least as bits", 1, y.thief(0, 20));
        Check.due("one grain", 1, Texts.told("town 0 0 0 0;crate 1 0;").thief(0, 1));
        Check.due("of two", 3, y.thief(0, 30));
        Check.due("the fewest", 5, y.thief(0, 40));
    }

    private static void levels(String land, int due) {
        Check.due("level of " + land, due, Texts.told(land).level(0));
    }

    private static void level() {
        levels("town 10 40 0 0;crate 30 0;crate 15 0;crate 15 0;ballast 5 0;", 1);
        levels("town 10 40 0 0;crate 15 0;crate 15 0;crate 30 0;", 4);
        levels("town 10 40 0 0;crate 15 0;crate 15 0;crate 29 0;", 3);
        levels("town 10 40 0 0;crate 10 0;ballast 9 0;", 1);
        levels("town 40 10 0 0;crate 10 0;ballast 9 0;", 2);
        levels("town 40 10 0 0;crate 10 0;ballast 40 0;", 3);
        levels("town 40 10 0 0;ballast 29 0;ballast 31 0;", 1);
        levels("town 40 10 0 0;ballast 60 0;", 0);
        levels("town 40 10 0 0;ballast 61 0;", 0);
        levels("town 40 10 0 0;ballast 59 0;", 1);
        levels("town 40 40 0 0;crate 10 0;ballast 10 0;crate 0 0;", 0);
        levels("town 40 40 0 0;", 0);
        levels("town 10 40 0 0;town 0 0 0 0;crate 30 1;crate 20 0;", 2);
        LuckCrates x = Texts.told("town 10 40 0 0;town 0 0 0 0;way 0 1 1 0;crate 30 0;crate 20 0;crate 10 0;");
        LuckCrates y = Texts.told("town 900 0 0 0;town 10 40 0 0;crate 20 1;crate 30 1;ballast 99 0;");
        Check.due("of another town", 2, y.level(1));
        x.send(0, 0);
        Check.due("none that is on a way", 6, x.level(0));
        x.open(1);
        Check.due("none that is gone", 4, x.level(0));
        Check.noSuch("no such town", () -> x.level(2));
        Check.noSuch("no such town below", () -> x.level(-1));
        mostLuck();
    }

    /** LUCK is 9999 at most, so what is opened above that changes nothing. */
    private static void mostLuck() {
        LuckCrates x = Texts.told("town 999 0 20 20;crate 99 0;crate 50 0;odds 0;");
        for (int i = 0; i < 10; i++) {
            x.days(30);
        }
        Check.due("LUCK is 9999", 9999, x.town(0, 0));
        Check.due("the fewest, as more are no worse", 0, x.level(0));
    }
}
