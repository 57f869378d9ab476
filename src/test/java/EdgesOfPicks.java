/** The edges of which crates, and of throws: promises 20 to 23, 32 and 38. */
final class EdgesOfPicks {
    private static final int NONE = LuckCrates.NONE;
    private static final int LEAST = Integer.MIN_VALUE;
    private static final int MOST = Integer.MAX_VALUE;
    private static final String TOWN = "town 0 0 0 0;";
    private static final String TWO = TOWN + TOWN;
    /** 12 to the power of 7. */
    private static final int ALL = 35831808;

    private EdgesOfPicks() {
    }

    static void all() {
        sending();
        promisesOfSending();
        hold();
        promisesOfHold();
        thief();
        level();
        thrower();
        promisesOfThrower();
        stop();
        promisesOfStop();
    }

    private static void sending() {
        Edges.term("SENDING to a TOWN: CRATES of LUCK that lie closed, anywhere, each by its row of THE LEAST LEAK "
                + "(with a CAT nothing is lost, if there is any row)", () -> {
            LuckCrates x = Texts.told(TWO + TWO + "way 0 1 1 9;way 0 2 9 0;way 2 1 8 1;crate 20 0;crate 99 3 cat;ballast 99 1;");
            Check.due("by the row that leaks 8", 1, x.sending(1, 12));
            Check.due("no more than that comes", NONE, x.sending(1, 13));
            x.cat(0, true);
            Check.due("with a CAT all", 1, x.sending(1, 20));
            Check.due("not without any row, nor BALLAST", NONE, x.sending(1, 21));
            Check.due("to where it lies", 2, x.sending(3, 99));
            x.send(0, 0);
            Check.due("one on a WAY doesn't lie closed", NONE, x.sending(1, 1));
            x.days(1);
            Check.due("it has come", 1, x.sending(1, 20));
            x.open(0);
            Check.due("one that is gone doesn't either", NONE, x.sending(1, 1));
            LuckCrates dry = Texts.told(TWO + "way 0 1 9 9;crate 81 0;crate 82 0;crate 80 0;");
            Check.due("82 less 81", 2, dry.sending(1, 1));
            Check.due("none is below 0", NONE, dry.sending(1, 2));
            LuckCrates cats = Texts.told(TWO + "way 0 1 9 9;crate 90 0;crate 89 0;crate 50 0 cat;crate 40 0;crate 30 0 cat;");
            Check.due("with a CAT", 4, cats.sending(1, 50));
            Check.due("with two", 20, cats.sending(1, 80));
            Check.due("and what is left of the others", 23, cats.sending(1, 97));
            Check.due("no more", NONE, cats.sending(1, 98));
        });
        Edges.term("the fewest of which the GRAINS that come are so many (1 to 999) or more, together: "
                + "of as few the least as bits; none.", () -> {
            LuckCrates x = Texts.told(TOWN + "crate 5 0;crate 3 0;crate 5 0;crate 8 0;crate 0 0;");
            Check.due("the least", 1, x.sending(0, 1));
            Check.due("just so many", 1, x.sending(0, 5));
            Check.due("one of 8", 8, x.sending(0, 6));
            Check.due("of two the least as bits", 5, x.sending(0, 9));
            Check.due("8 and 5, as 8 and 3 are more as bits", 9, x.sending(0, 11));
            Check.due("8 and 5", 9, x.sending(0, 13));
            Check.due("three", 13, x.sending(0, 18));
            Check.due("all but the empty one", 15, x.sending(0, 21));
            Check.due("none", NONE, x.sending(0, 22));
            LuckCrates ten = Texts.told(TOWN + "crate 99 0;".repeat(10));
            Check.due("ten", 1023, ten.sending(0, 990));
            Check.due("one more", NONE, ten.sending(0, 991));
            Check.due("the most that may be asked for", NONE, ten.sending(0, 999));
        });
    }

    private static void promisesOfSending() {
        Edges.promise(20, "SENDING, as bits; NONE: none.", () -> {
            LuckCrates x = Texts.told(TOWN + "crate 1 0;".repeat(9) + "crate 2 0;");
            Check.due("the highest bit", 512, x.sending(0, 2));
            Check.due("none", NONE, x.sending(0, 12));
            Check.due("without CRATES", NONE, Texts.told(TOWN).sending(0, 1));
        });
        Edges.promise(20, "IllegalArgumentException (behind NoSuchElementException): not 1 to 999.", () -> {
            LuckCrates x = Texts.told(TOWN);
            for (int grains : new int[] {0, -1, 1000, LEAST, MOST}) {
                Check.illegal("sending(0, " + grains + ")", () -> x.sending(0, grains));
                Check.noSuch("no such TOWN is ahead", () -> x.sending(1, grains));
            }
            Check.due("the least is none", NONE, x.sending(0, 1));
            Check.due("the most is none", NONE, x.sending(0, 999));
        });
    }

    private static void holds(String crates, int harm, int... row) {
        LuckCrates x = Texts.told(TWO + crates);
        Check.due("harm of " + crates, harm, x.hold(0, NONE));
        for (int i = 0; i < row.length; i++) {
            Check.due("hold " + i + " of " + crates, row[i], x.hold(0, i));
        }
    }

    private static void hold() {
        Edges.term("A HOLD: all CRATES that lie closed in a TOWN in a row, side by side: the harm is, of each two side by side "
                + "of two sorts, the lesser GRAINS, all together: the row with least harm: how much", () -> {
            holds("", 0);
            holds("crate 99 0;", 0, 0);
            holds("crate 99 0;ballast 98 0;", 98);
            holds("crate 98 0;ballast 99 0;", 98);
            holds("crate 99 0;ballast 99 0;", 99);
            holds("crate 9 0;crate 9 0;", 0);
            holds("ballast 9 0;ballast 9 0;", 0);
            holds("crate 99 0;ballast 99 0;crate 0 0;", 0);
            holds("crate 99 0;ballast 99 1;", 0, 0);
            holds("crate 9 0;ballast 8 0;".repeat(5), 8);
            LuckCrates x = Texts.told(TWO + "way 0 1 1 0;crate 9 0;ballast 8 0;crate 7 0;");
            x.send(2, 0);
            Check.due("none on a WAY", 8, x.hold(0, NONE));
            x.open(1);
            Check.due("none that is gone", 0, x.hold(0, NONE));
        });
        Edges.term("the first such row (the least CRATE first).", () -> {
            holds("crate 5 0;ballast 9 0;", 5, 0, 1);
            holds("crate 5 0;ballast 9 0;crate 7 0;", 5, 1, 0, 2);
            holds("crate 7 0;ballast 9 0;crate 5 0;", 5, 0, 2, 1);
            holds("ballast 5 0;crate 3 0;ballast 7 0;", 3, 0, 2, 1);
            holds("crate 9 0;ballast 6 0;ballast 5 0;", 5, 0, 2, 1);
            holds("crate 9 0;crate 5 0;crate 6 0;ballast 9 0;", 5, 0, 2, 1, 3);
            holds("crate 5 0;crate 6 0;ballast 9 0;", 5, 1, 0, 2);
            holds("crate 9 0;".repeat(8) + "ballast 8 0;crate 3 0;", 3, 0, 1, 2, 3, 4, 5, 6, 7, 9, 8);
            holds("crate 5 0;ballast 5 0;crate 5 0;", 5, 0, 2, 1);
            holds("crate 0 0;ballast 0 0;".repeat(5), 0, 0, 1, 2, 3, 4, 5, 6, 7, 8, 9);
            holds("ballast 9 0;crate 9 0;".repeat(5), 9, 0, 2, 4, 6, 8, 1, 3, 5, 7, 9);
            holds("crate 9 0;ballast 0 0;crate 8 0;ballast 7 0;crate 6 0;", 0, 0, 2, 4, 1, 3);
            holds("crate 9 0;ballast 8 0;crate 0 0;ballast 7 0;crate 0 0;", 0, 0, 2, 1, 3, 4);
        });
    }

    private static void promisesOfHold() {
        LuckCrates x = Texts.told(TWO + "crate 5 0;ballast 9 0;crate 7 0;");
        Edges.promise(21, "A HOLD: the harm (i NONE), the i-th CRATE of the row.", () -> {
            int[] due = {5, 1, 0, 2};
            for (int i = -1; i < 3; i++) {
                Check.due("hold(0, " + i + ")", due[i + 1], x.hold(0, i));
            }
            Check.due("the harm of none", 0, x.hold(1, NONE));
            LuckCrates ten = Texts.told(TOWN + "crate 1 0;".repeat(10));
            Check.due("the last of ten", 9, ten.hold(0, 9));
        });
        Edges.promise(21, "NoSuchElementException: also there is no such one.", () -> {
            for (int i : new int[] {-2, 3, 9, 10, LEAST, MOST}) {
                Check.noSuch("hold(0, " + i + ")", () -> x.hold(0, i));
            }
            Check.noSuch("of none", () -> x.hold(1, 0));
            LuckCrates ten = Texts.told(TOWN + "crate 1 0;".repeat(10));
            Check.noSuch("behind the last of ten", () -> ten.hold(0, 10));
        });
    }

    private static void thief() {
        Edges.term("A THIEF in a TOWN who carries so many GRAINS (0 to 999) takes CRATES of LUCK that lie closed there, "
                + "of no more GRAINS than that together, that have most, together: "
                + "of like ones the fewest, then the least as bits.", () -> {
            LuckCrates x = Texts.told(TWO + "way 0 1 9 0;crate 0 0;crate 20 0;crate 10 0;crate 20 0 cat;crate 10 0;"
                    + "ballast 5 0;crate 30 0;crate 1 1;");
            int[][] due = {{0, 0}, {9, 0}, {10, 4}, {19, 4}, {20, 2}, {29, 2}, {30, 64}, {39, 64}, {40, 10}, {49, 10}, {50, 66},
                {60, 70}, {70, 74}, {89, 78}, {90, 94}, {91, 94}, {999, 94}};
            for (int[] row : due) {
                Check.due("thief(0, " + row[0] + ")", row[1], x.thief(0, row[0]));
            }
            Check.due("elsewhere", 128, x.thief(1, 1));
            Check.due("less than it", 0, x.thief(1, 0));
            x.send(6, 0);
            Check.due("none on a WAY", 30, x.thief(0, 999));
            x.open(1);
            Check.due("none that is gone", 28, x.thief(0, 999));
            LuckCrates ten = Texts.told(TOWN + "crate 99 0;".repeat(10));
            Check.due("all ten", 1023, ten.thief(0, 990));
            Check.due("nine of ten", 511, ten.thief(0, 989));
        });
        Edges.promise(32, "A THIEF, as bits.", () -> {
            LuckCrates x = Texts.told(TOWN + "crate 1 0;".repeat(9) + "crate 50 0;");
            Check.due("the highest bit", 512, x.thief(0, 50));
            Check.due("none", 0, x.thief(0, 0));
            Check.due("without CRATES none", 0, Texts.told(TOWN).thief(0, 999));
        });
        Edges.promise(32, "IllegalArgumentException (behind NoSuchElementException): not 0 to 999.", () -> {
            LuckCrates x = Texts.told(TOWN);
            for (int grains : new int[] {-1, 1000, LEAST, MOST}) {
                Check.illegal("thief(0, " + grains + ")", () -> x.thief(0, grains));
                Check.noSuch("no such TOWN is ahead", () -> x.thief(1, grains));
            }
        });
    }

    private static void levels(String land, int due) {
        Check.due("level of " + land, due, Texts.told(land).level(0));
    }

    private static void level() {
        Edges.term("LEVEL: of CRATES that lie closed in a TOWN those that, OPENED now, all together, "
                + "would make the difference of its LUCK and BAD least: of as many the fewest, then the least as bits.", () -> {
            levels("town 0 0 0 0;", 0);
            levels("town 5 5 0 0;crate 0 0;ballast 0 0;crate 9 0;ballast 9 0;", 0);
            levels("town 0 30 0 0;crate 15 0;crate 15 0;crate 30 0;", 4);
            levels("town 0 30 0 0;crate 15 0;crate 15 0;crate 15 0;", 3);
            levels("town 0 30 0 0;crate 60 0;", 0);
            levels("town 0 30 0 0;crate 59 0;", 1);
            levels("town 30 0 0 0;ballast 29 0;ballast 31 0;", 1);
            levels("town 30 0 0 0;ballast 28 0;ballast 31 0;", 2);
            levels("town 0 999 0 0;" + "crate 99 0;".repeat(10), 1023);
            levels("town 0 30 0 0;town 0 0 0 0;crate 30 1;crate 1 0;", 2);
            LuckCrates x = Texts.told("town 0 30 0 0;town 0 0 0 0;way 0 1 1 0;crate 30 0;crate 20 0;crate 10 0;");
            x.send(0, 0);
            Check.due("none on a WAY", 6, x.level(0));
            x.open(1);
            Check.due("none that is gone", 4, x.level(0));
            LuckCrates last = Texts.told("town 50 9 0 0;".repeat(7) + "town 3 40 0 0;crate 9 0;crate 36 7;"
                    + "crate 37 7;crate 38 7;");
            Check.due("of the last TOWN", 4, last.level(7));
            LuckCrates most = Edges.in310Days("town 999 0 20 20;crate 99 0;ballast 9 0;ballast 8 0;odds 0;");
            Check.due("LUCK at its most: BALLAST alone", 6, most.level(0));
        });
        Edges.promise(38, "LEVEL, as bits.", () -> {
            levels("town 0 5 0 0;" + "crate 1 0;".repeat(9) + "crate 5 0;", 512);
            levels("town 0 5 0 0;" + "crate 1 0;".repeat(9), 31);
            levels("town 0 5 0 0;", 0);
        });
    }

    private static void throwsDue(int[][] due) {
        LuckCrates x = new LuckCrates();
        for (int[] d : due) {
            String call = "thrower(" + d[0] + ", " + d[1] + ", " + d[2] + ", " + d[3] + ")";
            Check.due(call, d[4], x.thrower(d[0], d[1], d[2], d[3]));
        }
    }

    private static void thrower() {
        Edges.term("A THROWER has so many GRAINS (0 to 20), wins one with so many twelfths (0 to 12), else loses one, each throw",
                () -> throwsDue(new int[][] {{0, 12, 1, 7, 0}, {20, 0, 20, 7, ALL}, {19, 5, 20, 1, 5}, {1, 0, 2, 7, 0},
                    {13, 12, 20, 7, ALL}, {12, 12, 20, 7, 0}, {2, 6, 3, 3, 6 * 144 + 6 * 6 * 6}}));
        Edges.term("he stops at a goal (1 to 20) or at 0", () -> throwsDue(new int[][] {{1, 6, 1, 7, ALL}, {20, 0, 1, 7, ALL},
            {1, 0, 1, 7, ALL}, {0, 12, 20, 7, 0}, {0, 12, 1, 1, 0}, {1, 6, 2, 3, 6 * 144}, {1, 1, 2, 7, ALL / 12},
            {1, 11, 2, 2, 132}}));
        Edges.term("how likely he is at the goal (or more) behind so many throws (0 to 7): "
                + "as so many of 12 to the power of these throws.", () -> throwsDue(new int[][] {{1, 6, 2, 0, 0}, {2, 6, 2, 0, 1},
                    {20, 6, 2, 0, 1}, {2, 6, 2, 1, 12}, {2, 6, 2, 2, 144}, {3, 6, 2, 7, ALL}, {1, 12, 8, 7, ALL},
                    {1, 12, 9, 7, 0},
                    {1, 11, 8, 7, 19487171}, {2, 5, 3, 3, 5 * 144 + 7 * 5 * 5}}));
    }

    private static void promisesOfThrower() {
        Edges.promise(22, "A THROWER.", () -> throwsDue(new int[][] {{1, 6, 2, 1, 6}, {1, 6, 3, 2, 36},
            {1, 6, 3, 4, 36 * 144 + 36 * 36}}));
        Edges.promise(22, "IllegalArgumentException: grains, twelfths, goal, throws.", () -> {
            LuckCrates x = new LuckCrates();
            int[][] wrong = {{-1, 6, 2, 1}, {21, 6, 2, 1}, {LEAST, 6, 2, 1}, {MOST, 6, 2, 1}, {1, -1, 2, 1}, {1, 13, 2, 1},
                {1, LEAST, 2, 1}, {1, MOST, 2, 1}, {1, 6, 0, 1}, {1, 6, -1, 1}, {1, 6, 21, 1}, {1, 6, LEAST, 1}, {1, 6, MOST, 1},
                {1, 6, 2, -1}, {1, 6, 2, 8}, {1, 6, 2, LEAST}, {1, 6, 2, MOST}};
            for (int[] w : wrong) {
                Check.illegal("thrower" + java.util.Arrays.toString(w), () -> x.thrower(w[0], w[1], w[2], w[3]));
            }
        });
    }

    private static void stops(int grains, int twelfths, int throwing, int much, int first) {
        LuckCrates x = new LuckCrates();
        String name = grains + " grains, " + twelfths + " twelfths, " + throwing + " throws";
        Check.due("how much with " + name, much, x.stop(grains, twelfths, throwing, 0));
        Check.due("whether first with " + name, first, x.stop(grains, twelfths, throwing, 1));
    }

    private static void stop() {
        Edges.term("TO STOP: of so many throws (1 to 7) with so many twelfths, having so many GRAINS, he stops whenever he wants "
                + "(at 0 he must), and gets as many as he has", () -> {
            stops(1, 7, 1, 7 * 2, 1);
            stops(20, 12, 7, 27 * ALL, 1);
            stops(20, 0, 7, 20 * ALL, 0);
            stops(0, 12, 1, 0, 0);
            stops(0, 12, 7, 0, 0);
            stops(1, 7, 2, 7 * (7 * 3 + 5 * 1), 1);
            stops(1, 12, 7, 8 * ALL, 1);
        });
        Edges.term("how much he has at most on average (the best he can do): "
                + "as so many of 12 to the power of these throws", () -> {
            stops(1, 5, 1, 12, 0);
            stops(2, 3, 2, 288, 0);
            stops(2, 7, 2, 7 * (7 * 4 + 5 * 2) + 5 * (7 * 2), 1);
            stops(2, 7, 3, 7 * (7 * (7 * 5 + 5 * 3) + 5 * (7 * 3 + 5)) + 5 * (7 * (7 * 3 + 5)), 1);
        });
        Edges.term("whether he throws first (1), or it isn't better than stopping (0).", () -> {
            stops(1, 6, 1, 12, 0);
            stops(20, 6, 7, 20 * ALL, 0);
            stops(20, 7, 1, 7 * 21 + 5 * 19, 1);
            stops(20, 5, 7, 20 * ALL, 0);
            stops(1, 6, 7, ALL, 0);
        });
    }

    private static void promisesOfStop() {
        Edges.promise(23, "TO STOP: how much (what 0), whether he throws first (1).", () -> {
            stops(3, 7, 1, 7 * 4 + 5 * 2, 1);
            stops(3, 6, 1, 36, 0);
        });
        Edges.promise(23, "NoSuchElementException: another what.", () -> {
            LuckCrates x = new LuckCrates();
            for (int what : new int[] {-1, 2, LEAST, MOST}) {
                Check.noSuch("stop(1, 6, 1, " + what + ")", () -> x.stop(1, 6, 1, what));
            }
        });
        Edges.promise(23, "IllegalArgumentException (behind that): grains, twelfths, throws.", () -> {
            LuckCrates x = new LuckCrates();
            int[][] wrong = {{-1, 6, 1}, {21, 6, 1}, {LEAST, 6, 1}, {MOST, 6, 1}, {1, -1, 1}, {1, 13, 1}, {1, LEAST, 1},
                {1, MOST, 1}, {1, 6, 0}, {1, 6, -1}, {1, 6, 8}, {1, 6, LEAST}, {1, 6, MOST}};
            for (int[] w : wrong) {
                Check.illegal("stop" + java.util.Arrays.toString(w), () -> x.stop(w[0], w[1], w[2], 0));
                Check.illegal("stop first" + java.util.Arrays.toString(w), () -> x.stop(w[0], w[1], w[2], 1));
                Check.noSuch("another what is ahead", () -> x.stop(w[0], w[1], w[2], 2));
            }
        });
    }
}
