/** The edges of the language of the rule: how an EXPR is read, what it gives, and what ODDS keep of it. */
final class EdgesOfOdds {
    private static final String TOWN = "town 0 0 0 0;";

    private EdgesOfOdds() {
    }

    static void all() {
        tests();
        sums();
        numbers();
        truth();
        values();
        odds();
    }

    /** What an EXPR gives for a town with LUCK 37, BAD 5, MAKES 3, STAKE 7. */
    private static void gives(String expr, int due) {
        LuckCrates x = Texts.told("town 37 5 3 7;odds " + expr + ";");
        Check.due("odds " + expr, due, x.town(0, 5));
    }

    private static void tests() {
        Edges.term("EXPR: AND ('or' AND)*.", () -> {
            gives("0", 0);
            gives("0 or 0 or 0 or 1", 1);
            gives("1 or 0 and 0", 1);
            gives("0 and 0 or 1", 1);
            Edges.fault("odds or 1;", 3, 5);
            Edges.fault("odds 1 or;", 1, 9);
            Edges.fault("odds 1 or or 1;", 3, 10);
        });
        Edges.term("AND: NOT ('and' NOT)*.", () -> {
            gives("1 and 1 and 1 and 0", 0);
            gives("1 and 2 and 3", 1);
            gives("0 and not 0", 0);
            gives("not 0 and 1", 1);
            Edges.fault("odds and 1;", 3, 5);
            Edges.fault("odds 1 and;", 1, 10);
        });
        Edges.term("NOT: 'not' NOT | SUM [('<' | '=') SUM].", () -> {
            gives("not not 5", 1);
            gives("not 0 < 0", 1);
            gives("not 1 = 2", 1);
            gives("1 + 1 < 3", 1);
            gives("2 = 1 + 1", 1);
            Edges.fault("odds 0 < 1 < 2;", 1, 11);
            Edges.fault("odds 1 = 1 = 1;", 1, 11);
            Edges.fault("odds 1 <;", 1, 8);
            Edges.fault("odds < 1;", 1, 5);
            Edges.fault("odds not;", 1, 8);
            Edges.fault("odds 1 = not 1;", 3, 9);
        });
    }

    private static void sums() {
        Edges.term("SUM: PRODUCT (('+' | '-') PRODUCT)*.", () -> {
            gives("1 + 2 + 3 - 4 + 5", 7);
            gives("1 + 2 * 3", 7);
            gives("9 - 6 / 3", 7);
            Edges.fault("odds 1 +;", 1, 8);
            Edges.fault("odds + 1;", 1, 5);
            Edges.fault("odds 1 - - 1;", 1, 9);
        });
        Edges.term("PRODUCT: PART (('*' | '/') PART)*.", () -> {
            gives("1 * 2 * 3 * 4 / 3", 8);
            gives("5", 5);
            Edges.fault("odds 1 *;", 1, 8);
            Edges.fault("odds / 1;", 1, 5);
            Edges.fault("odds 2 * - 1;", 1, 9);
        });
        Edges.term("PART: NUMBER | VALUE | '(' EXPR ')'.", () -> {
            gives("(7)", 7);
            gives("(0 or 3) + 4", 5);
            gives("2 * (1 + 2)", 6);
            gives("bad", 5);
            gives("(((((9)))))", 9);
            Edges.fault("odds ();", 1, 6);
            Edges.fault("odds (1;", 1, 7);
            Edges.fault("odds 1);", 1, 6);
            Edges.fault("odds ((1);", 1, 9);
        });
        Edges.term("From the left", () -> {
            gives("10 - 3 - 2", 5);
            gives("40 / 5 / 2", 4);
            gives("7 / 2 * 3", 9);
            gives("3 * 7 / 2", 10);
            gives("9 - 4 + 3", 8);
        });
    }

    private static void numbers() {
        Edges.term("ints that wrap", () -> {
            gives("(8192 * 8192 * 32 < 0) * 4", 4);
            gives("(0 < 8192 * 8192 * 32 - 1) * 4", 4);
            gives("8192 * 8192 * 64 + 5", 5);
            gives("(0 - 8192 * 8192 * 32 = 8192 * 8192 * 32) * 6", 6);
            gives("(8192 * 8192 * 32 - 1 + 1 < 0) * 7", 7);
            gives("(8192 * 8192 * 32 / (0 - 1) = 8192 * 8192 * 32) * 3", 3);
            gives("(9999 * 9999 * 9999 = 9999 * 9999 * 9999 + 0) * 2", 2);
        });
        Edges.term("/ cut down to 0, by 0 gives 0", () -> {
            gives("7 / 2", 3);
            gives("1 / 2", 0);
            gives("12 + (0 - 7) / 2", 9);
            gives("12 + 7 / (0 - 2)", 9);
            gives("(0 - 7) / (0 - 2)", 3);
            gives("12 + (0 - 1) / 2", 12);
            gives("5 / 0", 0);
            gives("0 / 0", 0);
            gives("5 / (luck - 37) + 4", 4);
            gives("8192 * 8192 * 32 / 0 + 3", 3);
        });
    }

    private static void truth() {
        Edges.term("tests, not, and, or are 1 or 0 (what isn't 0 holds).", () -> {
            gives("5 < 6", 1);
            gives("6 < 6", 0);
            gives("7 < 6", 0);
            gives("0 - 1 < 0", 1);
            gives("6 = 6", 1);
            gives("6 = 7", 0);
            gives("not 0", 1);
            gives("not 9", 0);
            gives("not (0 - 1)", 0);
            gives("9 and 8", 1);
            gives("9 and 0", 0);
            gives("0 and 9", 0);
            gives("0 and 0", 0);
            gives("9 or 8", 1);
            gives("0 or 9", 1);
            gives("9 or 0", 1);
            gives("0 or 0", 0);
            gives("0 - 1 and 0 - 2", 1);
            gives("0 - 1 or 0", 1);
            gives("8192 * 8192 * 32 and 1", 1);
            gives("(0 or 0) + (0 and 0) + (not 1) + (1 < 1) + (1 = 2) + 5", 5);
            gives("(2 or 2) + (2 and 2) + (not 0) + (1 < 3) + (2 = 2)", 5);
        });
    }

    private static void values() {
        Edges.term("VALUES of a TOWN on a DAY: 'luck', 'bad', 'stake', 'makes', 'day'", () -> {
            gives("luck - 30", 7);
            gives("bad", 5);
            gives("stake", 7);
            gives("makes", 3);
            gives("day", 0);
            LuckCrates last = Edges.on999("town 0 0 0 0;odds day - 990;");
            Check.due("on DAY 999", 9, last.town(0, 5));
            Check.due("on DAY 1002", 12, last.then(0, 3, 3));
            LuckCrates most = Edges.in310Days("town 999 0 20 20;odds (luck = 9999) * 6;");
            Check.due("the most LUCK", 6, most.town(0, 5));
        });
        Edges.term("'crates' (how many lie there closed).", () -> {
            LuckCrates x = Texts.told(TOWN + TOWN + "way 0 1 2 0;" + "crate 1 0;".repeat(9) + "ballast 1 0;odds crates;");
            Check.due("all ten, of both sorts", 10, x.town(0, 5));
            Check.due("none", 0, x.town(1, 5));
            x.open(0);
            Check.due("an opened one doesn't count", 9, x.town(0, 5));
            x.send(1, 0);
            Check.due("nor one on a WAY", 8, x.town(0, 5));
            Check.due("nor where it goes", 0, x.town(1, 5));
            x.mix(2, 3);
            Check.due("nor one that was mixed into another", 7, x.town(0, 5));
            x.days(2);
            Check.due("one that came does", 1, x.town(1, 5));
        });
    }

    private static void odds() {
        Edges.term("ODDS of a TOWN are what ODDS gives, kept to 0 to 12 twelfths", () -> {
            gives("0", 0);
            gives("12", 12);
            gives("13", 12);
            gives("9999", 12);
            gives("0 - 1", 0);
            gives("0 - 9999", 0);
            gives("8192 * 8192 * 32", 0);
            gives("8192 * 8192 * 32 - 1", 12);
        });
        Edges.term("(without one 6 and a tenth of LUCK, less a tenth of BAD, both cut down).", () -> {
            int[][] rows = {{0, 0, 6}, {9, 0, 6}, {10, 0, 7}, {0, 9, 6}, {0, 10, 5}, {10, 9, 7}, {9, 10, 5}, {19, 11, 6},
                {59, 0, 11}, {60, 0, 12}, {70, 0, 12}, {0, 60, 0}, {0, 70, 0}, {999, 999, 6}, {999, 0, 12}, {0, 999, 0}};
            for (int[] row : rows) {
                LuckCrates x = Texts.told("town " + row[0] + " " + row[1] + " 0 0;");
                Check.due("ODDS with " + row[0] + " and " + row[1], row[2], x.town(0, 5));
            }
        });
    }
}
