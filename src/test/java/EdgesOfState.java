import java.util.List;

/** The edges of what is: promises 5 to 7, and a DAY. */
final class EdgesOfState {
    private static final int NONE = LuckCrates.NONE;
    private static final int LEAST = Integer.MIN_VALUE;
    private static final int MOST = Integer.MAX_VALUE;
    private static final String TOWN = "town 0 0 0 0;";
    private static final String TEN = "crate 1 0;".repeat(10);

    /** A call with a TOWN, and one with a CRATE, and one with a WAY. */
    interface Asking {
        Object ask(LuckCrates x, int number);
    }

    private EdgesOfState() {
    }

    static void all() {
        start();
        cratesOfADay();
        townsOfADay();
        evensOut();
        countsOfTheLand();
        countsOfCrates();
        countsOfCalls();
        town();
        noSuchTown();
        crate();
        noSuchCrate();
        calls();
    }

    private static void start() {
        Edges.term("The DAY is 0, WON of all TOWNS 0.", () -> {
            LuckCrates x = Texts.told("town 0 0 0 20;town 0 0 0 10;odds 0;");
            Check.due("the DAY", 0, x.count(3));
            Check.due("WON", 0, x.town(0, 4));
            Check.due("WON of the other", 0, x.town(1, 4));
            x.days(9);
            Check.due("WON of all then", -270, x.count(6));
            Texts.province(x, "town 0 0 0 20;town 0 0 0 10;");
            Check.due("the DAY anew", 0, x.count(3));
            Check.due("WON anew", 0, x.town(0, 4));
            Check.due("WON of the other anew", 0, x.town(1, 4));
        });
    }

    private static void cratesOfADay() {
        String two = TOWN + TOWN;
        Edges.term("A DAY: CRATE by CRATE each that is on a WAY loses LEAK of the WAY (not below 0; none with a CAT)", () -> {
            LuckCrates x = Texts.told(two + "way 0 1 9 9;crate 9 0;crate 10 0;crate 8 0;crate 0 0;"
                    + "crate 99 0 cat;ballast 30 0;crate 50 0;");
            for (int c = 0; c < 6; c++) {
                x.send(c, 0);
            }
            x.days(1);
            int[] due = {0, 1, 0, 0, 99, 21, 50};
            for (int c = 0; c < due.length; c++) {
                Check.due("GRAINS of " + c + " in a DAY", due[c], x.crate(c, 0));
            }
            x.days(8);
            int[] then = {0, 0, 0, 0, 99, 0, 50};
            for (int c = 0; c < then.length; c++) {
                Check.due("GRAINS of " + c + " in nine DAYS", then[c], x.crate(c, 0));
            }
            LuckCrates dry = Texts.told(two + "way 0 1 9 0;crate 7 0;");
            dry.send(0, 0);
            dry.days(9);
            Check.due("a WAY that leaks 0", 7, dry.crate(0, 0));
            LuckCrates ten = Texts.told(two + "crate 5 0;".repeat(9) + "crate 5 1;");
            ten.days(3);
            Check.due("those that lie stay", 511, ten.town(0, 6));
            Check.due("the last one too", 512, ten.town(1, 6));
        });
        Edges.term("and has a DAY less to go: with none left it lies in the TOWN to which it goes.", () -> {
            LuckCrates x = Texts.told(two + "town 0 0 0 0;way 0 1 9 1;way 1 2 1 1;crate 50 0;crate 50 1;");
            x.send(0, 0);
            x.send(1, 1);
            x.days(1);
            Check.due("eight to go", 8, x.crate(0, 4));
            Check.due("a WAY of one DAY", 2, x.town(2, 6));
            x.days(7);
            Check.due("one to go", 1, x.crate(0, 4));
            Check.due("it is on the WAY still", 1, x.count(8));
            x.days(1);
            Check.due("none to go", 0, x.crate(0, 4));
            Check.due("it lies there", 1, x.town(1, 6));
            Check.due("with nine less", 41, x.crate(0, 0));
            x.days(30);
            Check.due("one that lies loses none", 41, x.crate(0, 0));
            Check.due("and goes nowhere", 1, x.crate(0, 3));
        });
    }

    private static void townsOfADay() {
        Edges.term("Then TOWN by TOWN: MAKES comes to its LUCK (9999 at most)", () -> {
            LuckCrates ahead = Texts.told("town 0 0 20 1;odds (luck = 20) * 7;");
            ahead.days(1);
            Check.due("ahead of its ODDS", 1, ahead.town(0, 4));
            Check.due("MAKES alone", 20, Texts.told("town 0 0 20 0;").then(0, 1, 0));
            LuckCrates crate = Texts.told(TOWN + "town 0 0 0 1;way 0 1 1 0;crate 1 0;odds crates * 7;");
            crate.send(0, 0);
            crate.days(1);
            Check.due("behind the CRATES", 1, crate.town(1, 4));
            LuckCrates x = Edges.in310Days("town 999 0 20 20;odds (day = 310) * 7;");
            Check.due("the most", 9999, x.town(0, 0));
            x.days(1);
            Check.due("no more than that less STAKE", 9979, x.town(0, 0));
        });
        Edges.term("then, if its ODDS are 7 or more, it WINS: WON is STAKE more, its LUCK STAKE less (not below 0)", () -> {
            for (int odds = 0; odds <= 12; odds++) {
                LuckCrates x = Texts.told("town 50 0 0 20;odds " + odds + ";");
                x.days(1);
                Check.due("WON with ODDS of " + odds, odds >= 7 ? 20 : -20, x.town(0, 4));
                Check.due("LUCK with ODDS of " + odds, odds >= 7 ? 30 : 60, x.town(0, 0));
            }
            int[][] rows = {{20, 20, 0}, {21, 20, 1}, {19, 20, 0}, {0, 20, 0}, {0, 0, 0}};
            for (int[] row : rows) {
                LuckCrates x = Texts.told("town " + row[0] + " 0 0 " + row[1] + ";odds 7;");
                x.days(1);
                Check.due("LUCK of " + row[0] + " less " + row[1], row[2], x.town(0, 0));
                Check.due("WON by " + row[1], row[1], x.town(0, 4));
            }
        });
        Edges.term("else it loses: WON is STAKE less, its LUCK half of STAKE, cut down, more (9999 at most)", () -> {
            int[][] rows = {{0, 0}, {1, 0}, {2, 1}, {3, 1}, {19, 9}, {20, 10}};
            for (int[] row : rows) {
                LuckCrates x = Texts.told("town 0 0 0 " + row[0] + ";odds 6;");
                x.days(1);
                Check.due("LUCK by STAKE " + row[0], row[1], x.town(0, 0));
                Check.due("WON by STAKE " + row[0], -row[0], x.town(0, 4));
            }
            LuckCrates most = Edges.in310Days("town 999 0 20 20;ballast 5 0;odds 0;");
            Check.due("the most", 9999, most.town(0, 0));
            most.open(0);
            most.days(1);
            Check.due("the most, less BAD", 9994, most.town(0, 0));
        });
    }

    private static void evensOut() {
        Edges.term("then LUCK and BAD are both less by the lesser of them.", () -> {
            int[][] rows = {{30, 20, 10, 0}, {20, 30, 0, 10}, {20, 20, 0, 0}, {0, 999, 0, 999}, {999, 0, 999, 0},
                {0, 0, 0, 0}, {999, 998, 1, 0}};
            for (int[] row : rows) {
                LuckCrates x = Texts.told("town " + row[0] + " " + row[1] + " 0 0;");
                x.days(1);
                Check.due("LUCK of " + row[0] + " and " + row[1], row[2], x.town(0, 0));
                Check.due("BAD of " + row[0] + " and " + row[1], row[3], x.town(0, 1));
            }
            LuckCrates behind = Texts.told("town 0 10 10 4;odds 7;");
            behind.days(1);
            Check.due("behind what it WINS", 4, behind.town(0, 1));
        });
        Edges.term("The DAY is one more then.", () -> {
            LuckCrates x = Texts.told("town 0 0 0 1;odds (day = 0) * 7;");
            x.days(1);
            Check.due("what a DAY does is done on it", 1, x.town(0, 4));
            Check.due("the DAY", 1, x.count(3));
            x.days(1);
            Check.due("on the next one it loses", 0, x.town(0, 4));
        });
    }

    private static void countsOfTheLand() {
        Edges.promise(5, "0 TOWNS, 1 WAYS, 2 CRATES, 3 the DAY", () -> {
            StringBuilder text = new StringBuilder(TOWN.repeat(8));
            for (int b = 1; b < 8; b++) {
                text.append("way 0 ").append(b).append(" 1 1;");
            }
            for (int b = 2; b < 7; b++) {
                text.append("way 1 ").append(b).append(" 1 1;");
            }
            LuckCrates x = Edges.on999(text + TEN);
            int[] most = {8, 12, 10, 999};
            LuckCrates none = Texts.told("");
            for (int what = 0; what < 4; what++) {
                Check.due("the most of " + what, most[what], x.count(what));
                Check.due("the least of " + what, 0, none.count(what));
            }
        });
        Edges.promise(5, "4 LUCK of all, 5 BAD of all, 6 WON of all", () -> {
            LuckCrates x = Edges.in310Days("town 999 0 20 20;".repeat(8) + "odds 0;");
            Check.due("the most LUCK of all", 8 * 9999, x.count(4));
            Check.due("lost by all", -8 * 310 * 20, x.count(6));
            LuckCrates bad = Texts.told("town 0 999 0 20;".repeat(8) + "ballast 99 7;odds 7;");
            bad.open(0);
            Check.due("BAD of all", 8 * 999 + 99, bad.count(5));
            bad.days(30);
            Check.due("won by all", 8 * 30 * 20, bad.count(6));
            LuckCrates each = Texts.told("town 20 0 0 1;town 0 9 0 1;".repeat(4) + "crate 77 0;odds (0 < luck) * 7;");
            each.days(1);
            Check.due("LUCK of eight", 4 * 19, each.count(4));
            Check.due("BAD of eight", 4 * 9, each.count(5));
            Check.due("WON of eight", 0, each.count(6));
            for (int what = 4; what <= 6; what++) {
                Check.due("of none " + what, 0, Texts.told("").count(what));
            }
        });
    }

    private static void countsOfCrates() {
        Edges.promise(5, "7 CRATES that lie closed (bits), 8 on WAYS (bits), 9 gone (bits)", () -> {
            LuckCrates x = Texts.told(TOWN + TOWN + "way 0 1 9 9;" + TEN);
            counts(x, 1023, 0, 0);
            x.send(9, 0);
            counts(x, 511, 512, 0);
            x.open(0);
            counts(x, 510, 512, 1);
            x.mix(1, 8);
            counts(x, 254, 512, 257);
            for (int c = 1; c < 8; c++) {
                x.send(c, 0);
            }
            counts(x, 0, 766, 257);
            x.days(9);
            counts(x, 766, 0, 257);
            for (int c = 1; c < 10; c++) {
                x.open(c);
            }
            counts(x, 0, 0, 1023);
            LuckCrates first = Texts.told(TOWN + TOWN + "way 0 1 9 9;" + TEN);
            first.send(0, 0);
            counts(first, 1022, 1, 0);
        });
    }

    private static void counts(LuckCrates x, int closed, int moving, int gone) {
        Check.due("closed", closed, x.count(7));
        Check.due("on WAYS", moving, x.count(8));
        Check.due("gone", gone, x.count(9));
    }

    private static void countsOfCalls() {
        Edges.promise(5, "10 ACTS that are kept, 11 SEEN, 12 bytes of the tape", () -> {
            LuckCrates x = Texts.told(TOWN);
            for (int what = 10; what <= 12; what++) {
                Check.due("the least of " + what, 0, x.count(what));
            }
            for (int i = 0; i < 45; i++) {
                x.days(1);
                x.see(0, 0, 0);
                x.feed(0, 0, 0, 0, 0);
            }
            int[] most = {40, 8, 700};
            for (int what = 10; what <= 12; what++) {
                Check.due("the most of " + what, most[what - 10], x.count(what));
            }
        });
        Edges.promise(5, "13 to 15 STATUS 0 to 2.", () -> {
            LuckCrates x = Texts.told(TOWN + "crate 1 0;");
            for (int i = 1; i <= 3; i++) {
                Texts.province(x, "?");
            }
            x.days(0);
            x.cat(0, false);
            x.see(0, 0, -1);
            int[] due = {3, 2, 1};
            for (int what = 13; what <= 15; what++) {
                Check.due("count(" + what + ")", due[what - 13], x.count(what));
            }
        });
        Edges.term("STATUS: how many calls were refused: 0 of TEXTS with a FAULT, 1 of ACTS, 2 of what is SEEN.", () -> {
            LuckCrates x = Texts.told(TOWN + TOWN + "way 0 1 1 0;crate 1 0;crate 1 1;");
            x.undo();
            x.restore();
            Check.illegal("it throws", () -> x.province(1));
            Check.noSuch("it throws too", () -> x.open(2));
            Check.noSuch("and so does this", () -> x.see(2, 0, 0));
            Check.due("none of these is counted", 0, x.count(13) + x.count(14) + x.count(15));
            x.days(31);
            x.send(0, 0);
            x.send(0, 0);
            x.open(0);
            x.cat(0, false);
            x.mix(0, 1);
            Check.due("one of each ACT", 5, x.count(14));
            x.undo();
            Check.due("they aren't undone", 5, x.count(14));
            x.image();
            x.days(31);
            x.see(0, 31, 0);
            x.restore();
            Check.due("nor restored", 6, x.count(14));
            Check.due("nor this one", 1, x.count(15));
            x.forget();
            Check.due("nor forgotten", 1, x.count(15));
        });
        Edges.promise(5, "NoSuchElementException: another what.", () -> {
            LuckCrates x = Texts.told(TOWN);
            for (int what : new int[] {-1, 16, LEAST, MOST}) {
                Check.noSuch("count(" + what + ")", () -> x.count(what));
            }
        });
    }

    private static void town() {
        Edges.promise(6, "Of a TOWN: 0 LUCK, 1 BAD, 2 MAKES, 3 STAKE, 4 WON, 5 ODDS, "
                + "6 CRATES that lie there closed (bits).", () -> {
            LuckCrates x = Texts.told("town 0 0 0 0;town 999 999 20 20;" + "crate 1 1;".repeat(10) + "odds 12 * (0 < stake);");
            int[][] due = {{0, 0, 0, 0, 0, 0, 0}, {999, 999, 20, 20, 0, 12, 1023}};
            for (int t = 0; t < 2; t++) {
                for (int what = 0; what <= 6; what++) {
                    Check.due("town(" + t + ", " + what + ")", due[t][what], x.town(t, what));
                }
            }
            x.days(30);
            Check.due("the most WON", 600, x.town(1, 4));
        });
    }

    private static void noSuchTown() {
        Edges.promise(6, "NoSuchElementException: no such TOWN (as everywhere)", () -> {
            List<Asking> all = List.of((x, t) -> x.town(t, 0), (x, t) -> x.then(t, 0, 0), (x, t) -> x.even(t),
                    (x, t) -> x.out(t), (x, t) -> x.far(t, 0), (x, t) -> x.far(0, t), (x, t) -> x.leak(t, 0),
                    (x, t) -> x.leak(0, t), (x, t) -> x.sending(t, 1), (x, t) -> x.hold(t, NONE), (x, t) -> x.see(t, 0, 0),
                    (x, t) -> x.game(t, 0, 0), (x, t) -> x.game(0, t, 0), (x, t) -> x.thief(t, 0), (x, t) -> x.row(t, 0, 0),
                    (x, t) -> x.row(0, t, 0), (x, t) -> x.streak(t, 0), (x, t) -> x.level(t), (x, t) -> x.lend(t));
            LuckCrates x = Texts.told(TOWN.repeat(2) + "way 0 1 1 1;");
            int[] was = Edges.state(x);
            int i = 0;
            for (Asking asking : all) {
                for (int t : new int[] {-1, 2, 7, 8, LEAST, MOST}) {
                    Check.noSuch("call " + i + " with TOWN " + t, () -> asking.ask(x, t));
                }
                i++;
            }
            Edges.same("behind them", was, x);
            Check.due("none is counted as refused", 0, x.count(14) + x.count(15));
        });
        Edges.promise(6, "what.", () -> {
            LuckCrates x = Texts.told(TOWN);
            for (int what : new int[] {-1, 7, LEAST, MOST}) {
                Check.noSuch("town(0, " + what + ")", () -> x.town(0, what));
            }
        });
    }

    private static void crate() {
        Edges.promise(7, "Of a CRATE: 0 GRAINS, 1 whether of BALLAST (1), 2 whether with a CAT (1)", () -> {
            LuckCrates x = Texts.told(TOWN + "crate 0 0;ballast 99 0 cat;");
            int[][] due = {{0, 0, 0}, {99, 1, 1}};
            for (int c = 0; c < 2; c++) {
                for (int what = 0; what < 3; what++) {
                    Check.due("crate(" + c + ", " + what + ")", due[c][what], x.crate(c, what));
                }
            }
        });
        Edges.promise(7, "3 the TOWN in which it lies, or to which it goes (NONE: gone), "
                + "4 DAYS to go (0: it lies, is gone).", () -> {
            LuckCrates x = Texts.told(TOWN + TOWN + "way 0 1 9 0;crate 1 0;crate 1 0;");
            lies(x, 0, 0);
            x.send(0, 0);
            lies(x, 1, 9);
            x.days(8);
            lies(x, 1, 1);
            x.days(1);
            lies(x, 1, 0);
            x.open(0);
            lies(x, NONE, 0);
            x.undo();
            x.send(1, 0);
            x.days(9);
            x.mix(1, 0);
            lies(x, NONE, 0);
            LuckCrates ten = Texts.told(TOWN + TOWN + "way 0 1 7 0;" + TEN);
            ten.send(9, 0);
            ten.send(4, 0);
            ten.days(1);
            Check.due("DAYS to go of the last", 6, ten.crate(9, 4));
            Check.due("its TOWN", 1, ten.crate(9, 3));
            Check.due("DAYS to go of another", 6, ten.crate(4, 4));
            Check.due("of one that lies", 0, ten.crate(5, 4));
        });
    }

    private static void lies(LuckCrates x, int town, int days) {
        Check.due("its TOWN", town, x.crate(0, 3));
        Check.due("its DAYS to go", days, x.crate(0, 4));
    }

    private static void noSuchCrate() {
        Edges.promise(7, "NoSuchElementException: no such CRATE (as everywhere)", () -> {
            List<Asking> all = List.of((x, c) -> x.crate(c, 0), (x, c) -> x.send(c, 0), (x, c) -> x.open(c),
                    (x, c) -> x.cat(c, true), (x, c) -> x.cat(c, false), (x, c) -> x.mix(c, 0), (x, c) -> x.mix(0, c));
            LuckCrates x = Texts.told(TOWN.repeat(2) + "way 0 1 1 1;crate 1 0;crate 1 0;");
            int[] was = Edges.state(x);
            int i = 0;
            for (Asking asking : all) {
                for (int c : new int[] {-1, 2, 9, 10, LEAST, MOST}) {
                    Check.noSuch("call " + i + " with CRATE " + c, () -> asking.ask(x, c));
                }
                i++;
            }
            Edges.same("behind them", was, x);
            Check.due("none is counted as refused", 0, x.count(14));
        });
        Edges.promise(7, "what.", () -> {
            LuckCrates x = Texts.told(TOWN + "crate 1 0;");
            for (int what : new int[] {-1, 5, LEAST, MOST}) {
                Check.noSuch("crate(0, " + what + ")", () -> x.crate(0, what));
            }
            x.open(0);
            Check.noSuch("of one that is gone", () -> x.crate(0, 5));
        });
    }

    private static void calls() {
        Edges.term("An object is used for at most 512 calls after it has been made", () -> {
            LuckCrates x = Texts.told(TOWN + "crate 9 0;");
            int told = 2 + 1;
            for (int i = told; i < 510; i++) {
                x.cat(0, i % 2 == 1);
            }
            Check.due("the 511th", 1, x.crate(0, 2));
            Check.due("the 512th", 39, x.undo());
        });
    }
}
