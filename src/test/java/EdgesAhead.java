/** The edges of what will be, or would be: promises 14 to 17, 28, 29, 36, 37, 39 and 40. */
final class EdgesAhead {
    private static final int NONE = LuckCrates.NONE;
    private static final int LEAST = Integer.MIN_VALUE;
    private static final int MOST = Integer.MAX_VALUE;
    private static final String TOWN = "town 0 0 0 0;";

    private EdgesAhead() {
    }

    static void all() {
        thenAndEven();
        outAndLuckiest();
        pooled();
        missed();
        streakAndDay();
        lend();
        spoilt();
        promisesOfThen();
        promisesOfFirsts();
        promisesOfPoolAndMiss();
        promisesOfStreakAndDay();
    }

    private static void thenAndEven() {
        Edges.term("(If only DAYS go by, from now on:) THEN, in so many DAYS (0 to 60): LUCK, BAD, WON, ODDS of a TOWN.", () -> {
            LuckCrates x = Texts.told("town 0 999 1 3;odds day - 50;");
            int[] now = {0, 999, 0, 0};
            int[] last = {0, 999 - 57 * 2 - 3 * 0, -3 * 57 + 3 * 3, 10};
            for (int what = 0; what <= 3; what++) {
                Check.due("now " + what, now[what], x.then(0, 0, what));
                Check.due("in 60 " + what, last[what], x.then(0, 60, what));
            }
            x.days(1);
            Check.due("from now on", 11, x.then(0, 60, 3));
            LuckCrates end = Edges.on999("town 0 0 0 1;odds (998 < day) * 7;");
            Check.due("beyond DAY 999", -999 + 60, end.then(0, 60, 2));
            Check.due("which nothing reaches", 999, end.count(3));
            LuckCrates comes = Texts.told(TOWN + "town 0 0 0 3;way 0 1 9 0;crate 1 0;odds crates * 7;");
            comes.send(0, 0);
            Check.due("it is on its WAY still", 0, comes.then(1, 8, 3));
            Check.due("it has come", 7, comes.then(1, 9, 3));
            Check.due("ahead of the ODDS of that DAY", -8 * 3 + 3, comes.then(1, 9, 2));
            Check.due("now it hasn't", 9, comes.crate(0, 4));
        });
        Edges.term("EVEN: in how many DAYS (0 to 60) a TOWN has as much LUCK as BAD first; none.", () -> {
            Check.due("now", 0, Texts.told("town 999 999 20 20;").even(0));
            Check.due("in one", 1, Texts.told("town 0 5 0 10;").even(0));
            Check.due("in 60", 60, Texts.told("town 0 300 0 10;").even(0));
            Check.due("in 61: none", NONE, Texts.told("town 0 305 0 10;").even(0));
            Check.due("of the last TOWN", 60, Texts.told("town 0 9 0 0;".repeat(7) + "town 0 300 0 10;").even(7));
            LuckCrates after = Texts.told("town 0 305 0 10;");
            after.days(1);
            Check.due("from now on", 60, after.even(0));
            Check.due("never", NONE, Texts.told("town 1 0 0 0;").even(0));
            Check.due("the first of two", 0, Texts.told("town 0 0 1 0;odds 7;").even(0));
        });
    }

    private static void outAndLuckiest() {
        Edges.term("RUNS OUT: in how many DAYS (1 to 60) a TOWN loses first; none.", () -> {
            Check.due("on the first", 1, Texts.told("town 0 0 0 0;odds 6;").out(0));
            Check.due("on the second", 2, Texts.told("town 0 0 0 0;odds 7 - day;").out(0));
            Check.due("on the 60th", 60, Texts.told("town 0 0 0 0;odds (day < 59) * 7;").out(0));
            Check.due("on the 61st: none", NONE, Texts.told("town 0 0 0 0;odds (day < 60) * 7;").out(0));
            Check.due("never", NONE, Texts.told("town 0 0 0 0;odds 7;").out(0));
        });
        Edges.term("THE LUCKIEST in so many DAYS (0 to 60): the TOWN with most WON "
                + "(of like ones the least); none without.", () -> {
            LuckCrates x = Texts.told("town 0 0 0 1;town 0 0 0 2;town 0 0 0 2;odds (day = 59) * 7 + (stake = 1) * 7;");
            Check.due("now, of like ones the least", 0, x.luckiest(0));
            Check.due("in 60", 0, x.luckiest(60));
            String late = "town 0 0 0 1;town 0 0 0 0;odds (day < 29 or day = ";
            Check.due("in 59 the first has lost one more than won", 1, Texts.told(late + "59) * 7;").luckiest(59));
            Check.due("on the 60th it is even", 0, Texts.told(late + "59) * 7;").luckiest(60));
            Check.due("not on the 61st", 1, Texts.told(late + "60) * 7;").luckiest(60));
            LuckCrates now = Texts.told("town 0 0 0 1;town 0 0 0 20;odds (day < 30) * 7;");
            now.days(30);
            Check.due("what is WON by now", 1, now.luckiest(0));
            Check.due("and on", 1, now.luckiest(29));
            Check.due("until it is lost", 0, now.luckiest(31));
            Check.due("below 0 for all", 1, Texts.told("town 0 0 0 20;town 0 0 0 19;town 0 0 0 20;odds 0;").luckiest(60));
            Check.due("none", NONE, Texts.told("").luckiest(60));
        });
    }

    private static void pooled() {
        Edges.term("POOLED: were LUCK and BAD of all TOWNS now shared by all, each having as much of them "
                + "(all together by how many there are, cut down)", () -> {
            String three = "town 20 0 0 1;town 0 0 0 1;town 0 0 0 1;odds ";
            Check.due("20 by 3 is 6", 6, Texts.told(three + "(luck = 6) * 7;").pooled(1));
            Check.due("not 7", 0, Texts.told(three + "(luck = 7) * 7;").pooled(1));
            String bad = "town 0 20 0 1;town 0 0 0 1;town 0 0 0 1;odds ";
            Check.due("BAD too", 6, Texts.told(bad + "(bad = 6) * 7;").pooled(1));
            Check.due("LUCK and BAD of one alone", 0, Texts.told("town 7 8 9 10;").pooled(60));
            Check.due("of none", 0, Texts.told("").pooled(1));
            LuckCrates most = Edges.in310Days("town 999 0 20 20;".repeat(8) + "odds (day = 310 and luck = 9999) * 7;");
            Check.due("all at the most", 0, most.pooled(1));
        });
        Edges.term("by how much more WON of all together would be more in so many DAYS (1 to 60) than it will as it is "
                + "(it may be below 0).", () -> {
            String two = "town 10 0 0 1;town 0 0 0 1;odds ";
            Check.due("in one", 4, Texts.told(two + "(luck = 5 and day = 0) * 7;").pooled(1));
            Check.due("in 59 not yet", 0, Texts.told(two + "(luck = 5 and day = 59) * 7;").pooled(59));
            Check.due("in 60", 4, Texts.told(two + "(luck = 5 and day = 59) * 7;").pooled(60));
            Check.due("not in 61", 0, Texts.told(two + "(luck = 5 and day = 60) * 7;").pooled(60));
            LuckCrates x = Texts.told(two + "(luck = 10 and day = 0) * 7;");
            Check.due("below 0", -2, x.pooled(1));
            Check.due("below 0 in 60", -2, x.pooled(60));
        });
    }

    private static void missed() {
        Edges.term("MISSED: the CRATE that lies closed without which (were it gone now), sent nowhere, but with all others "
                + "OPENED now, WON of all together in 30 DAYS would be least (of like ones the least); none without.", () -> {
            String wins = "town 0 0 0 1;odds (0 < luck) * 7;";
            Check.due("of like ones the least", 0, Texts.told(wins + "crate 5 0;crate 5 0;").missed());
            Check.due("the 30th DAY counts", 1, Texts.told(wins + "crate 29 0;crate 30 0;").missed());
            Check.due("the 31st doesn't", 0, Texts.told(wins + "crate 30 0;crate 31 0;").missed());
            Check.due("of ten the last", 9, Texts.told(wins + "crate 1 0;".repeat(9) + "crate 2 0;").missed());
            Check.due("of ten one in their midst", 2,
                    Texts.told(wins + "ballast 0 0;crate 29 0;crate 30 0;" + "crate 0 0;".repeat(7)).missed());
            Check.due("alone", 0, Texts.told(wins + "crate 5 0;").missed());
            Check.due("one that does harm, alone", 0, Texts.told(wins + "ballast 99 0;").missed());
            Check.due("none without", NONE, Texts.told(wins).missed());
            LuckCrates x = Texts.told(wins + "town 0 0 0 20;way 0 1 9 0;crate 1 0;crate 99 0;crate 50 0;");
            x.send(1, 0);
            Check.due("one on a WAY isn't asked for", 2, x.missed());
            x.open(2);
            Check.due("nor one that is gone", 0, x.missed());
            x.open(0);
            Check.due("none lies closed", NONE, x.missed());
            LuckCrates moving = Texts.told("town 0 0 0 1;town 0 0 0 1;way 0 1 9 0;crate 7 1;crate 5 0;crate 99 0;"
                    + "odds (0 < luck) * 7;");
            moving.send(2, 0);
            Check.due("one on a WAY isn't OPENED", 0, moving.missed());
            LuckCrates gone = Texts.told("town 0 0 0 1;town 0 0 0 9;crate 0 0;crate 0 1;odds (crates = 0) * 7;");
            Check.due("it lies there no more", 0, gone.missed());
        });
    }

    private static void streakAndDay() {
        Edges.term("(If only DAYS go by, from now on:) A STREAK of a TOWN: the most DAYS one behind the other, "
                + "of so many (0 to 60), on which it WINS.", () -> {
            LuckCrates x = Texts.told("town 0 0 0 0;odds 7;");
            Check.due("of none", 0, x.streak(0, 0));
            Check.due("of one", 1, x.streak(0, 1));
            Check.due("of 60", 60, x.streak(0, 60));
            LuckCrates late = Texts.told("town 0 0 0 0;odds (57 < day) * 7;");
            Check.due("on the last two of 60", 2, late.streak(0, 60));
            Check.due("not on what comes behind", 1, late.streak(0, 59));
            late.days(30);
            Check.due("from now on", 32, late.streak(0, 60));
            LuckCrates gap = Texts.told("town 0 0 0 0;odds (day < 20 or 20 < day and day < 41) * 7;");
            Check.due("not over one that it loses", 20, gap.streak(0, 60));
            Check.due("never", 0, Texts.told("town 0 0 0 0;odds 6;").streak(0, 60));
        });
        Edges.term("THE DAY of all: on which DAY from now, of so many (1 to 60; of like ones the first; 1 on), "
                + "WON of all together becomes most more (or least less): which; by how much.", () -> {
            LuckCrates x = Texts.told("town 0 0 0 20;town 0 0 0 1;odds (day = 59) * 7;");
            Check.due("of one", 1, x.day(1, 0));
            Check.due("by", -21, x.day(1, 1));
            Check.due("of like ones the first", 1, x.day(59, 0));
            Check.due("least less", -21, x.day(59, 1));
            Check.due("the 60th", 60, x.day(60, 0));
            Check.due("most more", 21, x.day(60, 1));
            x.days(1);
            Check.due("from now", 59, x.day(60, 0));
            LuckCrates less = Texts.told("town 0 0 0 20;town 0 0 0 1;odds (day = 3) * (stake = 1) * 7;");
            Check.due("which is least less", 4, less.day(60, 0));
            Check.due("by so much less", -19, less.day(60, 1));
            Check.due("of none the first", 1, Texts.told("").day(60, 0));
            Check.due("by none", 0, Texts.told("").day(60, 1));
        });
    }

    private static void lends(String land, int due) {
        Check.due("lend of " + land, due, Texts.told(land).lend(0));
    }

    private static void lend() {
        Edges.term("TO LEND: the most GRAINS (0 to its LUCK) that a TOWN may give away now so that its own ODDS now "
                + "are still 7 or more; none, if they aren't now.", () -> {
            lends("town 999 0 0 0;odds 7;", 999);
            lends("town 0 0 0 0;odds 7;", 0);
            lends("town 10 0 0 0;", 0);
            lends("town 19 0 0 0;", 9);
            lends("town 9 0 20 0;", NONE);
            lends("town 999 0 0 0;odds 6;", NONE);
            lends("town 999 0 0 0;odds 7 * (luck = 999);", 0);
            lends("town 999 0 0 0;odds 7 * (luck = 999 or luck = 998);", 1);
            lends("town 999 0 0 0;odds 7 * (luck = 999 or luck = 0);", 999);
            lends("town 999 0 0 0;odds 7 * (luck = 999 or luck = 1);", 998);
            lends("town 999 0 0 0;odds 7 * (luck < 999);", NONE);
            LuckCrates most = Edges.in310Days("town 999 0 20 20;odds (day = 310) * 7;");
            Check.due("the most there is", 9999, most.lend(0));
            Check.due("of the last TOWN", 57, Texts.told("town 9 0 0 0;".repeat(7) + "town 67 0 0 0;").lend(7));
        });
    }

    private static void spoilt() {
        Edges.term("SPOILT: CRATES on WAYS that will have no GRAINS when they come, as bits.", () -> {
            LuckCrates x = Texts.told(TOWN + TOWN + "way 0 1 9 9;crate 80 0;crate 81 0;crate 82 0;ballast 81 0;"
                    + "crate 1 0 cat;crate 0 0 cat;crate 0 0;crate 81 0;crate 99 0;ballast 1 0;");
            Check.due("none is on a WAY", 0, x.spoilt());
            for (int c = 0; c < 10; c++) {
                if (c != 6) {
                    x.send(c, 0);
                }
            }
            Check.due("80 and 81 of 81, not 82", 1 | 2 | 8 | 32 | 128 | 512, x.spoilt());
            x.days(8);
            Check.due("a DAY ahead of it", 1 | 2 | 8 | 32 | 128 | 512, x.spoilt());
            x.cat(1, true);
            Check.due("a CAT for the last DAY", 1 | 8 | 32 | 128 | 512, x.spoilt());
            x.days(1);
            Check.due("all have come", 0, x.spoilt());
            Check.due("none at all", 0, Texts.told("").spoilt());
            LuckCrates all = Texts.told(TOWN + TOWN + "way 0 1 1 1;" + "crate 1 0;".repeat(10));
            for (int c = 0; c < 10; c++) {
                all.send(c, 0);
            }
            Check.due("all ten", 1023, all.spoilt());
        });
        Edges.promise(40, "SPOILT, as bits.", () -> {
            LuckCrates x = Texts.told(TOWN + TOWN + "way 0 1 2 1;crate 2 0;crate 3 0;");
            x.send(0, 0);
            x.send(1, 0);
            Check.due("the first", 1, x.spoilt());
            x.undo();
            x.undo();
            Check.due("none", 0, x.spoilt());
        });
    }

    private static void promisesOfThen() {
        Edges.promise(14, "THEN: 0 LUCK, 1 BAD, 2 WON, 3 ODDS.", () -> {
            LuckCrates x = Texts.told("town 20 9 0 5;town 0 39 0 20;town 30 9 0 5;");
            int[][] due = {{6, 0, 5, 6}, {0, 29, -20, 4}, {16, 0, 5, 7}};
            for (int t = 0; t < 3; t++) {
                for (int what = 0; what <= 3; what++) {
                    Check.due("then(" + t + ", 1, " + what + ")", due[t][what], x.then(t, 1, what));
                }
            }
        });
        Edges.promise(14, "NoSuchElementException: also another what.", () -> {
            LuckCrates x = Texts.told(TOWN);
            for (int what : new int[] {-1, 4, LEAST, MOST}) {
                Check.noSuch("then(0, 0, " + what + ")", () -> x.then(0, 0, what));
            }
        });
        Edges.promise(14, "IllegalArgumentException (behind that): not 0 to 60.", () -> {
            LuckCrates x = Texts.told(TOWN);
            for (int days : new int[] {-1, 61, LEAST, MOST}) {
                Check.illegal("then(0, " + days + ", 0)", () -> x.then(0, days, 0));
                Check.noSuch("no such TOWN is ahead", () -> x.then(1, days, 0));
                Check.noSuch("another what is ahead", () -> x.then(0, days, 4));
            }
        });
    }

    private static void promisesOfFirsts() {
        Edges.promise(15, "EVEN; NONE: none.", () -> {
            LuckCrates x = Texts.told("town 5 5 0 0;town 5 4 0 0;town 4 5 1 1;");
            Check.due("now", 0, x.even(0));
            Check.due("never", NONE, x.even(1));
            Check.due("at once then", 1, x.even(2));
        });
        Edges.promise(16, "RUNS OUT; NONE: none.", () -> {
            LuckCrates x = Texts.told("town 0 0 0 0;town 0 0 0 20;town 0 0 0 9;odds (stake = 20 or day < stake) * 7;");
            Check.due("at once", 1, x.out(0));
            Check.due("never", NONE, x.out(1));
            Check.due("on the tenth", 10, x.out(2));
        });
        Edges.promise(17, "THE LUCKIEST; NONE: no TOWNS.", () -> {
            Check.due("of eight the last", 7, Texts.told("town 0 0 0 2;".repeat(7) + "town 0 0 0 1;odds 0;").luckiest(1));
            Check.due("no TOWNS", NONE, new LuckCrates().luckiest(60));
        });
        Edges.promise(17, "IllegalArgumentException: not 0 to 60.", () -> {
            LuckCrates x = Texts.told(TOWN);
            for (int days : new int[] {-1, 61, LEAST, MOST}) {
                Check.illegal("luckiest(" + days + ")", () -> x.luckiest(days));
                Check.illegal("without TOWNS too", () -> new LuckCrates().luckiest(days));
            }
        });
    }

    private static void promisesOfPoolAndMiss() {
        Edges.promise(28, "POOLED: by how much more.", () -> {
            Check.due("more", 2, Texts.told("town 30 0 0 1;town 30 40 0 1;").pooled(1));
            Check.due("less", -2, Texts.told("town 10 0 0 1;town 0 0 0 1;").pooled(1));
            LuckCrates x = Texts.told("town 10 0 0 1;town 0 0 0 1;odds (luck = 5) * 7;");
            x.days(3);
            int[] was = Edges.state(x);
            x.pooled(60);
            Edges.same("a question", was, x);
        });
        Edges.promise(28, "IllegalArgumentException: not 1 to 60.", () -> {
            LuckCrates x = Texts.told(TOWN);
            for (int days : new int[] {0, -1, 61, LEAST, MOST}) {
                Check.illegal("pooled(" + days + ")", () -> x.pooled(days));
                Check.illegal("without TOWNS too", () -> new LuckCrates().pooled(days));
            }
        });
        Edges.promise(29, "MISSED; NONE: none.", () -> {
            LuckCrates x = Texts.told("town 0 0 0 1;crate 1 0;crate 2 0;odds (0 < luck) * 7;");
            Check.due("the second", 1, x.missed());
            x.open(1);
            Check.due("the first", 0, x.missed());
            x.open(0);
            Check.due("none", NONE, x.missed());
        });
        Edges.promise(39, "TO LEND; NONE: none.", () -> {
            LuckCrates x = Texts.told("town 12 0 0 0;town 9 0 0 0;");
            Check.due("two", 2, x.lend(0));
            Check.due("none", NONE, x.lend(1));
        });
    }

    private static void promisesOfStreakAndDay() {
        Edges.promise(36, "A STREAK.", () -> {
            LuckCrates x = Texts.told("town 0 0 0 0;town 0 0 0 1;odds (stake = 1) * 7;");
            Check.due("none", 0, x.streak(0, 60));
            Check.due("all", 60, x.streak(1, 60));
        });
        Edges.promise(36, "IllegalArgumentException (behind NoSuchElementException): not 0 to 60.", () -> {
            LuckCrates x = Texts.told(TOWN);
            for (int days : new int[] {-1, 61, LEAST, MOST}) {
                Check.illegal("streak(0, " + days + ")", () -> x.streak(0, days));
                Check.noSuch("no such TOWN is ahead", () -> x.streak(1, days));
            }
        });
        Edges.promise(37, "THE DAY of all (what 0), by how much (1).", () -> {
            LuckCrates x = Texts.told("town 0 0 0 7;odds (day = 1) * 7;");
            Check.due("which", 2, x.day(2, 0));
            Check.due("by how much", 7, x.day(2, 1));
        });
        Edges.promise(37, "NoSuchElementException: another what.", () -> {
            LuckCrates x = Texts.told(TOWN);
            for (int what : new int[] {-1, 2, LEAST, MOST}) {
                Check.noSuch("day(1, " + what + ")", () -> x.day(1, what));
            }
        });
        Edges.promise(37, "IllegalArgumentException (behind that): not 1 to 60.", () -> {
            LuckCrates x = Texts.told(TOWN);
            for (int days : new int[] {0, -1, 61, LEAST, MOST}) {
                Check.illegal("day(" + days + ", 0)", () -> x.day(days, 0));
                Check.illegal("day(" + days + ", 1)", () -> x.day(days, 1));
                Check.noSuch("another what is ahead", () -> x.day(days, 2));
            }
        });
    }
}
