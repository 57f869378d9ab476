/** The language of the rule: what an EXPR gives, as a town's ODDS show it. */
public final class OddsTest {
    public static void main(String[] args) {
        values();
        arithmetic();
        tests();
        withoutRule();
        rulesOnDays();
        Check.end();
    }

    /** A town with LUCK 37, BAD 5, MAKES 3, STAKE 7 and two crates; a third one lies elsewhere. */
    private static void gives(String expr, int odds) {
        LuckCrates x = Texts.told("town 37 5 3 7;town 0 0 0 0;crate 1 0;ballast 2 0;crate 3 1;odds " + expr + ";");
        Check.due("odds " + expr, odds, x.town(0, 5));
        Check.due("then odds " + expr, odds, x.then(0, 0, 3));
    }

    private static void values() {
        gives("luck - 30", 7);
        gives("luck", 12);
        gives("bad", 5);
        gives("makes", 3);
        gives("stake", 7);
        gives("day", 0);
        gives("crates", 2);
        gives("12", 12);
        gives("13", 12);
        gives("9999", 12);
        gives("0 - 1", 0);
    }

    private static void arithmetic() {
        gives("10 - 3 - 2", 5);
        gives("2 + 3 * 2", 8);
        gives("(2 + 3) * 2", 10);
        gives("20 / 3 / 2", 3);
        gives("20 / (3 / 2)", 12);
        gives("3 * 7 / 2", 10);
        gives("7 / 2 * 3", 9);
        gives("7 / 0", 0);
        gives("7 / 0 + 4", 4);
        gives("12 + (0 - 7) / 2", 9);
        gives("12 + 7 / (0 - 2)", 9);
        gives("(9999 * 9999 * 9999 < 0) * 5", 5);
        gives("(8192 * 8192 * 32 < 0) * 4", 4);
        gives("(8192 * 8192 * 32 / (0 - 1) < 0) * 3", 3);
    }

    private static void tests() {
        gives("1 < 2", 1);
        gives("2 < 2", 0);
        gives("3 < 2", 0);
        gives("2 = 2", 1);
        gives("2 = 3", 0);
        gives("1 + 2 < 4", 1);
        gives("3 * (1 < 2)", 3);
        gives("not 5", 0);
        gives("not 0", 1);
        gives("not not 5", 1);
        gives("not not not 5", 0);
        gives("not 0 < 0", 1);
        gives("not 1 + 1", 0);
        gives("5 and 3", 1);
        gives("5 and 0", 0);
        gives("0 and 5", 0);
        gives("0 or 4", 1);
        gives("4 or 0", 1);
        gives("0 or 0", 0);
        gives("1 or 0 and 0", 1);
        gives("(1 or 0) and 0", 0);
        gives("not 1 or 1", 1);
        gives("not (1 or 1)", 0);
        gives("not 0 and 0", 0);
        gives("0 - 3 and 2 - 3", 1);
        gives("(0 or 5) + (3 and 7) + (not 0) + (1 < 2) + (1 = 1)", 5);
        gives("((((1 + 1) * 2 + 1) * 2 - 1) / 3) * 2", 6);
        gives("1 or (1 and (1 < (1 + (1 * (5 and 9)))))", 1);
    }

    private static void withoutRule() {
        int[][] rows = {{0, 0, 6}, {9, 9, 6}, {10, 0, 7}, {19, 0, 7}, {0, 10, 5}, {59, 0, 11}, {60, 0, 12}, {999, 0, 12},
            {0, 59, 1}, {0, 60, 0}, {0, 999, 0}, {19, 19, 6}, {20, 19, 7}, {15, 9, 7}, {9, 10, 5}};
        for (int[] row : rows) {
            LuckCrates x = Texts.told("town " + row[0] + " " + row[1] + " 0 0;");
            Check.due("ODDS of " + row[0] + " and " + row[1], row[2], x.town(0, 5));
        }
    }

    private static void rulesOnDays() {
        LuckCrates x = Texts.told("town 0 0 0 1;odds day * 7;");
        Check.due("on DAY 0 it loses", -1, x.then(0, 1, 2));
        Check.due("on DAY 1 it wins", 0, x.then(0, 2, 2));
        Check.due("ODDS in a day", 7, x.then(0, 1, 3));
        x.days(1);
        Check.due("ODDS on DAY 1", 7, x.town(0, 5));
        LuckCrates each = Texts.told("town 1 2 3 4;town 5 6 7 8;crate 1 1;odds luck + bad * (luck = 5) - stake + makes - crates;");
        Check.due("of the first town", 0, each.town(0, 5));
        Check.due("of the second town", 9, each.town(1, 5));
        LuckCrates y = Texts.told("town 0 0 0 1;town 0 0 0 1;way 0 1 2 0;crate 1 0;odds crates * 7;");
        y.send(0, 0);
        y.days(1);
        Check.due("a crate on a way lies nowhere", 0, y.town(1, 5));
        Check.due("both lose", -2, y.count(6));
        y.days(1);
        Check.due("it comes ahead of the odds", -2, y.count(6));
        Check.due("the town to which it came wins", 0, y.town(1, 4));
    }
}
