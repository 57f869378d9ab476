/** Promises 14 to 17, 28, 29, 36, 37, 39, 40: what will be, or would be. */
public final class AheadTest {
    private static final int NONE = LuckCrates.NONE;

    public static void main(String[] args) {
        then();
        even();
        out();
        luckiest();
        pooled();
        missed();
        streak();
        day();
        lend();
        spoilt();
        nothingChanges();
        Check.end();
    }

    private static void then() {
        LuckCrates x = Texts.told(StateTest.LAND);
        int[][] now = {{40, 5, 0, 10}, {0, 30, 0, 3}, {100, 0, 0, 12}};
        int[][] inOne = {{33, 0, 4, 9}, {0, 25, -10, 4}, {99, 0, 6, 12}};
        for (int t = 0; t < 3; t++) {
            for (int what = 0; what <= 3; what++) {
                Check.due("then now", now[t][what], x.then(t, 0, what));
                Check.due("then in a day", inOne[t][what], x.then(t, 1, what));
            }
        }
        x.days(1);
        Check.due("from now on", -20, x.then(1, 1, 2));
        LuckCrates y = Texts.told("town 1 0 2 0;");
        Check.due("in 60 days", 121, y.then(0, 60, 0));
        LuckCrates z = Texts.told("town 0 0 0 0;town 0 0 0 0;way 0 1 2 0;crate 1 0;odds crates * 5 + day;");
        z.send(0, 0);
        Check.due("ODDS while it is on the way", 1, z.then(1, 1, 3));
        Check.due("ODDS when it has come", 7, z.then(1, 2, 3));
        Check.illegal("then in 61 days", () -> x.then(0, 61, 0));
        Check.illegal("then in -1 days", () -> x.then(0, -1, 0));
        Check.noSuch("no such town", () -> x.then(3, 0, 0));
        Check.noSuch("no such town below", () -> x.then(-1, 61, 0));
        Check.noSuch("no such thing", () -> x.then(0, 0, 4));
        Check.noSuch("no such thing below", () -> x.then(0, 0, -1));
        Check.noSuch("ahead of days", () -> x.then(0, 61, 4));
    }

    private static void even() {
        Check.due("even now", 0, Texts.told("town 7 7 0 0;").even(0));
        Check.due("even at nothing", 0, Texts.told("town 0 0 5 5;").even(0));
        Check.due("in 20 days", 20, Texts.told("town 0 100 0 10;").even(0));
        Check.due("in 60 days", 60, Texts.told("town 0 300 0 10;").even(0));
        Check.due("beyond 60 days", NONE, Texts.told("town 0 301 0 10;").even(0));
        LuckCrates x = Texts.told("town 1 0 0 0;town 0 100 0 10;odds 0;");
        Check.due("never", NONE, x.even(0));
        Check.due("of another town", 20, x.even(1));
        x.days(3);
        Check.due("from now on", 17, x.even(1));
        Check.noSuch("no such town", () -> x.even(2));
        Check.noSuch("no such town below", () -> x.even(-1));
    }

    private static void out() {
        Check.due("on the first day", 1, Texts.told("town 0 0 0 0;odds 6;").out(0));
        Check.due("never", NONE, Texts.told("town 0 0 0 0;odds 7;").out(0));
        Check.due("on the 60th day", 60, Texts.told("town 0 0 0 0;odds (day < 59) * 7;").out(0));
        Check.due("on the 61st day", NONE, Texts.told("town 0 0 0 0;odds (day < 60) * 7;").out(0));
        LuckCrates x = Texts.told("town 0 0 0 0;town 0 0 0 3;odds (day < stake) * 7;");
        Check.due("of one town", 1, x.out(0));
        Check.due("of another town", 4, x.out(1));
        x.days(1);
        Check.due("from now on", 3, x.out(1));
        Check.noSuch("no such town", () -> x.out(2));
        Check.noSuch("no such town below", () -> x.out(-1));
    }

    private static void luckiest() {
        LuckCrates x = Texts.told("town 0 0 0 3;town 0 0 0 2;town 0 0 0 2;odds (0 < day) * 7;");
        Check.due("all have won 0", 0, x.luckiest(0));
        Check.due("in a day", 1, x.luckiest(1));
        Check.due("in two days all are even", 0, x.luckiest(2));
        Check.due("in 60 days", 0, x.luckiest(60));
        Check.due("losers have a luckiest too", 1, Texts.told("town 0 0 0 9;town 0 0 0 8;odds 0;").luckiest(9));
        Check.due("the last one", 2, Texts.told("town 0 0 0 3;town 0 0 0 2;town 0 0 0 1;odds 0;").luckiest(3));
        x.days(1);
        Check.due("what is WON by now counts", 1, x.luckiest(0));
        Check.due("no towns", NONE, new LuckCrates().luckiest(60));
        Check.illegal("61 days", () -> x.luckiest(61));
        Check.illegal("-1 days", () -> x.luckiest(-1));
        Check.illegal("without towns too", () -> new LuckCrates().luckiest(61));
    }

    private static void pooled() {
        Check.due("as the document's land", 20, Texts.told(StateTest.LAND).pooled(1));
        LuckCrates x = Texts.told("town 10 0 0 1;town 0 0 0 1;");
        Check.due("below 0", -2, x.pooled(1));
        Check.due("cut down", -2, Texts.told("town 20 0 0 1;town 0 0 0 1;town 0 0 0 1;").pooled(1));
        Check.due("BAD is shared", 2, Texts.told("town 30 0 0 1;town 30 40 0 1;").pooled(1));
        Check.due("BAD is cut down", 4, Texts.told("town 10 0 0 1;town 10 19 0 2;").pooled(1));
        Check.due("no towns", 0, new LuckCrates().pooled(60));
        Check.due("all alike", 0, Texts.told("town 30 0 3 1;town 30 0 3 1;").pooled(60));
        LuckCrates y = Texts.told("town 10 0 0 1;town 0 0 0 1;odds (luck = 5 and day = 59) * 7;");
        Check.due("in 59 days", 0, y.pooled(59));
        Check.due("in 60 days", 4, y.pooled(60));
        Check.illegal("0 days", () -> x.pooled(0));
        Check.illegal("61 days", () -> x.pooled(61));
        Check.illegal("-1 days", () -> x.pooled(-1));
    }

    private static void missed() {
        String wins = "town 0 0 0 1;odds (0 < luck) * 7;";
        Check.due("the greatest", 1, Texts.told(wins + "crate 10 0;crate 20 0;crate 5 0;").missed());
        Check.due("of like ones the least", 0, Texts.told(wins + "crate 10 0;crate 10 0;crate 5 0;").missed());
        Check.due("ballast is missed least", 1, Texts.told(wins + "ballast 9 0;crate 2 0;crate 20 0 cat;crate 1 0;")
                .missed() == 2 ? 1 : 0);
        Check.due("it alone", 0, Texts.told(wins + "ballast 9 0;").missed());
        Check.due("30 days, not 29", 1, Texts.told(wins + "crate 10 0;crate 11 0;crate 20 0;").missed() == 2 ? 1 : 0);
        Check.due("all would win 30 days", 0, Texts.told(wins + "crate 15 0;crate 16 0;crate 15 0;").missed());
        Check.due("but for the middle one", 1, Texts.told(wins + "crate 15 0;crate 16 0;crate 14 0;").missed());
        Check.due("no crates", NONE, Texts.told(wins).missed());
        Check.due("nothing", NONE, new LuckCrates().missed());
        String two = "town 0 0 0 1;town 0 0 0 9;way 0 1 9 0;";
        LuckCrates x = Texts.told(two + "crate 10 0;crate 90 1;crate 20 0;odds (0 < luck) * 7;");
        Check.due("where the stake is high", 1, x.missed());
        x.send(1, 0);
        Check.due("one on a way is not asked for", 2, x.missed());
        x.open(2);
        Check.due("nor one that is gone", 0, x.missed());
        x.open(0);
        Check.due("none", NONE, x.missed());
        LuckCrates y = Texts.told("town 0 0 0 1;crate 5 0;crate 6 0;odds (crates = 0) * 7;");
        Check.due("it is gone itself", 0, y.missed());
        Check.due("as are the others", 0, y.count(9));
    }

    private static void streak() {
        LuckCrates x = Texts.told("town 0 0 0 0;town 0 0 0 1;"
                + "odds (day < 3 or 4 < day and day < 9) * 7 * (stake = 0);");
        int[] due = {0, 1, 2, 3, 3, 3, 3, 3, 3, 4, 4};
        for (int days = 0; days < due.length; days++) {
            Check.due("streak in " + days, due[days], x.streak(0, days));
        }
        Check.due("in 60", 4, x.streak(0, 60));
        Check.due("one that loses", 0, x.streak(1, 60));
        x.days(6);
        Check.due("from now on", 3, x.streak(0, 60));
        Check.due("all of 60", 60, Texts.told("town 0 0 0 0;odds 7;").streak(0, 60));
        Check.illegal("61 days", () -> x.streak(0, 61));
        Check.illegal("-1 days", () -> x.streak(0, -1));
        Check.noSuch("no such town", () -> x.streak(2, 61));
        Check.noSuch("no such town below", () -> x.streak(-1, 0));
    }

    private static void day() {
        LuckCrates x = Texts.told("town 0 0 0 5;town 0 0 0 1;odds (day = 2) * 7;");
        Check.due("least less", 1, x.day(2, 0));
        Check.due("by", -6, x.day(2, 1));
        Check.due("of one day", 1, x.day(1, 0));
        Check.due("by that", -6, x.day(1, 1));
        Check.due("most more", 3, x.day(3, 0));
        Check.due("by so much", 6, x.day(3, 1));
        Check.due("in 60", 3, x.day(60, 0));
        x.days(2);
        Check.due("from now on", 1, x.day(60, 0));
        Check.due("not what is WON by now", 6, x.day(60, 1));
        LuckCrates y = Texts.told("town 0 0 0 5;odds (day = 59) * 7;");
        Check.due("the 60th", 60, y.day(60, 0));
        Check.due("not the 60th", 1, y.day(59, 0));
        Check.due("no towns", 1, new LuckCrates().day(60, 0));
        Check.due("no towns by", 0, new LuckCrates().day(60, 1));
        Check.illegal("0 days", () -> x.day(0, 0));
        Check.illegal("61 days", () -> x.day(61, 1));
        Check.noSuch("no such thing", () -> x.day(1, 2));
        Check.noSuch("ahead of days", () -> x.day(0, -1));
    }

    private static void lends(String land, int due) {
        Check.due("lend of " + land, due, Texts.told(land).lend(0));
    }

    private static void lend() {
        lends("town 40 5 2 4;", 30);
        lends("town 10 0 0 0;", 0);
        lends("town 19 0 0 0;", 9);
        lends("town 9 0 0 0;", NONE);
        lends("town 999 990 0 0;", NONE);
        lends("town 999 980 0 0;", 9);
        lends("town 30 0 0 0;odds 7;", 30);
        lends("town 30 0 0 0;odds 6;", NONE);
        lends("town 0 0 0 0;odds 7;", 0);
        lends("town 30 0 0 0;odds (luck = 5 or 20 < luck) * 7;", 25);
        lends("town 10 0 0 0;odds (luck = 5 or 20 < luck) * 7;", NONE);
        lends("town 30 0 0 0;odds (luck = 30) * 7;", 0);
        lends("town 30 0 5 0;crate 1 0;odds (luck = 20) * 7 + (luck = 30) * (6 + crates);", 10);
        LuckCrates x = Texts.told("town 9 0 0 0;town 25 0 0 0;");
        Check.due("of another town", 15, x.lend(1));
        Check.noSuch("no such town", () -> x.lend(2));
        Check.noSuch("no such town below", () -> x.lend(-1));
    }

    private static void spoilt() {
        LuckCrates x = Texts.told("town 0 0 0 0;town 0 0 0 0;way 0 1 3 2;crate 6 0;crate 7 0;crate 5 0 cat;"
                + "ballast 1 0;crate 0 0 cat;crate 0 0;");
        Check.due("none is on a way", 0, x.spoilt());
        for (int c = 0; c < 5; c++) {
            x.send(c, 0);
        }
        Check.due("those that come empty", 1 | 8 | 16, x.spoilt());
        x.days(1);
        Check.due("a day on", 1 | 8 | 16, x.spoilt());
        x.cat(0, true);
        Check.due("a cat helps", 8 | 16, x.spoilt());
        x.cat(3, true);
        Check.due("too late", 8 | 16, x.spoilt());
        x.cat(2, false);
        Check.due("without its cat it has just enough", 8 | 16, x.spoilt());
        x.days(2);
        Check.due("all have come", 0, x.spoilt());
        Check.due("nothing", 0, new LuckCrates().spoilt());
    }

    private static void nothingChanges() {
        LuckCrates x = Texts.told(StateTest.LAND);
        x.send(0, 0);
        x.then(0, 60, 0);
        x.even(0);
        x.out(0);
        x.luckiest(60);
        x.pooled(60);
        x.missed();
        x.streak(0, 60);
        x.day(60, 0);
        x.lend(0);
        x.spoilt();
        x.game(0, 1, 0);
        x.years(1, 60, 0);
        x.opened(0);
        x.next(0);
        x.level(0);
        int[] due = {3, 2, 4, 0, 140, 35, 0, 14, 1, 0, 1, 0, 0, 0, 0, 0};
        for (int what = 0; what < due.length; what++) {
            Check.due("count(" + what + ") behind questions", due[what], x.count(what));
        }
        Check.due("the crate on its way", 2, x.crate(0, 4));
        Check.due("its grains", 50, x.crate(0, 0));
    }
}
