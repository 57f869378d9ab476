/** Promises 1 to 4: the new object, the tape, the text and its FAULTS. */
public final class TextTest {
    private static final String TWO = "town 1 1 1 1;town 1 1 1 1;";

    public static void main(String[] args) {
        newObject();
        feed();
        province();
        provinceAnew();
        provinceAgainAndAgain();
        manyRules();
        provinceFaultKeepsAll();
        wholeTexts();
        faultsOfTokens();
        faultsOfTowns();
        faultsOfWays();
        faultsOfCrates();
        faultsOfOdds();
        faultsOfDepth();
        tooMany();
        Check.end();
    }

    private static void newObject() {
        LuckCrates x = new LuckCrates();
        for (int what = 0; what <= 15; what++) {
            Check.due("count(" + what + ") of a new object", 0, x.count(what));
        }
        Check.due("fault() of a new object", LuckCrates.NONE, x.fault());
        Check.due("restore() of a new object", false, x.restore());
        Check.due("undo() of a new object", LuckCrates.NONE, x.undo());
        Check.noSuch("town(0, 0) of a new object", () -> new LuckCrates().town(0, 0));
        Check.noSuch("crate(0, 0) of a new object", () -> new LuckCrates().crate(0, 0));
        Check.noSuch("bridge(0) of a new object", () -> new LuckCrates().bridge(0));
    }

    private static void feed() {
        LuckCrates x = new LuckCrates();
        StringBuilder text = new StringBuilder("town 1 2 3 4;odds 1");
        while (text.length() < 699) {
            text.append(text.length() % 2 == 0 ? '1' : '+');
        }
        text.append(';');
        int[] n = Texts.numbers(text.toString());
        for (int i = 0; i < 35; i++) {
            Check.due("feed " + i, 20 * (i + 1), x.feed(n[5 * i], n[5 * i + 1], n[5 * i + 2], n[5 * i + 3], n[5 * i + 4]));
        }
        Check.due("feed beyond 700", LuckCrates.NONE, x.feed(0, 0, 0, 0, 0));
        Check.due("the tape stays", 700, x.count(12));
        Check.due("a text of 700 bytes", 0, x.province(700));
        Check.due("bytes come highest first", 2, x.town(0, 1));
        Check.due("the tape is empty", 0, x.count(12));
    }

    private static void province() {
        LuckCrates x = new LuckCrates();
        Check.illegal("province(1) of an empty tape", () -> x.province(1));
        Check.illegal("province(-1)", () -> x.province(-1));
        Texts.feed(x, "odds");
        Check.illegal("province(21) of 20 bytes", () -> x.province(21));
        Check.illegal("province(least)", () -> x.province(Integer.MIN_VALUE));
        Check.due("the tape stays as it is", 20, x.count(12));
        Check.due("no FAULT is told", LuckCrates.NONE, x.fault());
        Check.due("none is refused", 0, x.count(13));
        Check.due("its first 3 bytes", 1, x.province(3));
        Check.due("at", 0, x.fault());
        Check.due("the tape is empty behind a FAULT", 0, x.count(12));
        Check.due("one is refused", 1, x.count(13));
        Check.illegal("province(1) then", () -> x.province(1));
        Check.due("the FAULT's place stays", 0, x.fault());
        Check.due("no bytes", 0, x.province(0));
        Check.due("no FAULT now", LuckCrates.NONE, x.fault());
        Texts.feed(x, "town 1 2 3 4;odds odds");
        Check.due("just the first bytes count", 0, x.province(13));
        Check.due("one town", 1, x.count(0));
        Check.due("the rest of the tape is gone", 0, x.count(12));
    }

    private static void provinceAnew() {
        LuckCrates x = Texts.told("town 9 8 7 6;town 5 4 3 2;way 0 1 3 1;crate 9 1 cat;ballast 7 0;odds 3;");
        x.days(2);
        x.send(0, 0);
        x.see(0, 0, 0);
        x.see(0, 31, 0);
        x.days(0);
        x.image();
        Texts.province(x, "?");
        Check.due("a new province", 0, Texts.province(x, "town 50 0 0 5;crate 6 0;"));
        int[] due = {1, 0, 1, 0, 50, 0, 0, 1, 0, 0, 0, 0, 0, 1, 1, 1};
        for (int what = 0; what < due.length; what++) {
            Check.due("count(" + what + ") anew", due[what], x.count(what));
        }
        Check.due("ODDS are told no more", 11, x.town(0, 5));
        Check.due("the crate has no CAT", 0, x.crate(0, 2));
        Check.due("no image", false, x.restore());
        Check.due("no acts", LuckCrates.NONE, x.undo());
        Check.noSuch("no way", () -> x.send(0, 0));
        Check.due("nothing at all", 0, Texts.province(x, ""));
        Check.due("no towns", 0, x.count(0));
        Check.due("no crates", 0, x.count(2));
    }

    /** What was told ahead, well or not, leaves nothing in what is told behind it. */
    private static void provinceAgainAndAgain() {
        LuckCrates x = Texts.told("town 9 8 7 6;town 5 4 3 2;way 0 1 3 1;crate 9 1 cat;ballast 7 0;odds crates;");
        Texts.province(x, "odds 5;town 1 1 1 1;town 1 1 1 1;way 0 1 2 2;ballast 5 1 cat;odds");
        for (int i = 0; i < 3; i++) {
            Check.due("told anew", 0, Texts.province(x, "town 50 0 0 5;town 1 1 0 0;crate 6 1;"));
            Check.due("no ways", 0, x.count(1));
            Check.due("no way to it", LuckCrates.NONE, x.far(0, 1));
            Check.due("one crate", 1, x.count(2));
            Check.due("of luck", 0, x.crate(0, 1));
            Check.due("without a cat", 0, x.crate(0, 2));
            Check.due("no rule", 11, x.town(0, 5));
            Check.due("told with a rule", 0, Texts.province(x, "town 9 9 9 9;odds 1 + 2;"));
            Check.due("the rule", 3, x.town(0, 5));
            Check.due("told with another rule", 0, Texts.province(x, "odds crates + 4;town 9 9 9 9;crate 1 0;"));
            Check.due("the other rule", 5, x.town(0, 5));
            Check.due("a FAULT behind much", 1, Texts.province(x, "town 1 1 1 1;town 1 1 1 1;way 0 1 1 1;odds 9;crate 9 0 cat;?"));
        }
    }

    private static void manyRules() {
        LuckCrates x = new LuckCrates();
        for (int i = 0; i < 90; i++) {
            Texts.province(x, "odds 1 + 1;");
        }
        Check.due("one rule more", 0, Texts.province(x, "town 0 0 0 0;odds 9;"));
        Check.due("it alone counts", 9, x.town(0, 5));
    }

    private static void provinceFaultKeepsAll() {
        LuckCrates x = Texts.told("town 9 8 7 6;town 5 4 3 2;way 0 1 3 1;crate 9 1 cat;ballast 7 0;odds 3;");
        x.days(1);
        x.image();
        x.send(0, 0);
        x.see(1, 2, 3);
        int[] was = new int[13];
        for (int what = 0; what <= 12; what++) {
            was[what] = x.count(what);
        }
        Check.due("a FAULT at the end", 4, Texts.province(x, "town 1 1 1 1;way 0 0"));
        for (int what = 0; what <= 12; what++) {
            Check.due("count(" + what + ") stays", was[what], x.count(what));
        }
        Check.due("ODDS stay", 3, x.town(0, 5));
        Check.due("acts stay", 1, x.undo());
        Check.due("the image stays", true, x.restore());
        Check.due("the DAY of the image", 1, x.count(3));
    }

    private static void fault(String text, int code, int place) {
        LuckCrates x = new LuckCrates();
        Check.due("province of " + text, code, Texts.province(x, text));
        Check.due("fault() of " + text, place, x.fault());
    }

    private static void whole(String text) {
        fault(text, 0, LuckCrates.NONE);
    }

    private static void wholeTexts() {
        whole("");
        whole(" \n ");
        whole("town 0 0 0 0;");
        whole("town0 0 0 0;");
        whole("\n town\n0 0\n 0 0 ;\n");
        whole("town 999 999 20 20;");
        whole("town 0000 0001 0020 0;");
        whole(TWO + "way 0 1 1 0;");
        whole(TWO + "way 1 0 9 9;");
        whole(TWO + "crate 99 1;");
        whole(TWO + "crate 0 0 cat;ballast 5 1 cat;ballast 5 1;");
        whole("odds 9999;town 1 1 1 1;");
        whole("odds(1<2)<3;");
        whole("odds 1or 2and not 3=4;");
        whole("odds luck+bad-stake*makes/day<crates;");
        whole("odds not not not not not not 1;");
        whole("odds not not not not not not (not 1);");
        whole("odds not not not 1 and not not not not 1;");
        whole("odds (((((1)))));");
    }

    private static void faultsOfTokens() {
        fault("town 0 0 0 0", 1, 12);
        fault("town 0 0 0 0   ", 1, 15);
        fault("town", 1, 4);
        fault("town 0 0 0 0 0;", 1, 13);
        fault("town 0 0 0 0;;", 1, 13);
        fault("Town 0 0 0 0;", 1, 0);
        fault("towns 0 0 0 0;", 1, 0);
        fault("tow n 0 0 0 0;", 1, 0);
        fault("xown 0 0 0 0;", 1, 0);
        fault("townz 0 0 0 0;", 1, 0);
        fault("luck;", 1, 0);
        fault("7;", 1, 0);
        fault("12345;", 1, 0);
        fault(" ;", 1, 1);
        fault("town\t0 0 0 0;", 1, 4);
        fault("town 0 0\r0 0;", 1, 8);
        fault("town x 0 0 0;", 1, 5);
        fault("town -1 0 0 0;", 1, 5);
        fault("town 0 0 0 0," + TWO, 1, 12);
        fault("town 0 0 0 0" + (char) 187, 1, 12);
        fault((char) 0 + "", 1, 0);
        fault((char) 160 + "town 0 0 0 0;", 1, 0);
        fault("town 0 0 0 0;`", 1, 13);
        fault("town 0 0 0 0;{", 1, 13);
        fault("odds 1 > 2;", 1, 7);
        fault("odds 1 : 2;", 1, 7);
    }

    private static void faultsOfTowns() {
        fault("town 1000 0 0 0;", 2, 5);
        fault("town 0 1000 0 0;", 2, 7);
        fault("town 0 0 21 0;", 2, 9);
        fault("town 0 0 0 21;", 2, 11);
        fault("town 00000 0 0 0;", 2, 5);
        fault("town 99999999999999999999 0 0 0;", 2, 5);
        fault("town 1000 0 21 0;", 2, 5);
        fault("town 0 0 0;", 1, 10);
    }

    private static void faultsOfWays() {
        fault("way 0 1 1 1;", 3, 4);
        fault(TWO + "way 0 1 0 0;", 2, 34);
        fault(TWO + "way 0 1 10 0;", 2, 34);
        fault(TWO + "way 0 1 1 10;", 2, 36);
        fault(TWO + "way 2 1 1 1;", 3, 30);
        fault(TWO + "way 0 2 1 1;", 3, 32);
        fault(TWO + "way 0 9999 1 1;", 3, 32);
        fault(TWO + "way 12345 1 1 1;", 2, 30);
        fault(TWO + "way 0 12345 1 1;", 2, 32);
        fault(TWO + "way 0 00000 1 1;", 2, 32);
        fault(TWO + "way 0 0 1 1;", 4, 32);
        fault(TWO + "way 1 0001 1 1;", 4, 32);
        fault(TWO + "way 0 1 1 1;way 0 1 1 1;", 4, 44);
        fault(TWO + "way 0 1 1 1;way 1 0 1 1;", 4, 44);
        fault(TWO + "way 0;", 1, 31);
        fault(TWO + "way luck 0 1 1;", 1, 30);
        fault(TWO + "way 0 1 1 1 1;", 1, 38);
        fault("town 1 1 1 1;way 0 1 1 1;town 1 1 1 1;", 3, 19);
    }

    private static void faultsOfCrates() {
        fault("crate 5 0;", 3, 8);
        fault(TWO + "crate 100 0;", 2, 32);
        fault(TWO + "ballast 100 0;", 2, 34);
        fault(TWO + "crate 5 2;", 3, 34);
        fault(TWO + "crate 5 12345;", 2, 34);
        fault(TWO + "crate 5;", 1, 33);
        fault(TWO + "crate 5 cat;", 1, 34);
        fault(TWO + "crate cat;", 1, 32);
        fault(TWO + "crate 5 0 cats;", 1, 36);
        fault(TWO + "crate 5 0 dog;", 1, 36);
        fault(TWO + "crate 5 0 catz;", 1, 36);
        fault(TWO + "crate 5 0 cat cat;", 1, 40);
        fault(TWO + "crate 5 0 1;", 1, 36);
    }

    private static void faultsOfOdds() {
        fault("odds;", 1, 4);
        fault("odds", 1, 4);
        fault("odds won;", 3, 5);
        fault("odds town;", 3, 5);
        fault("odds lucky;", 3, 5);
        fault("odds or 1;", 3, 5);
        fault("odds 1 or;", 1, 9);
        fault("odds 1 or", 1, 9);
        fault("odds 1 or and;", 3, 10);
        fault("odds 1 and;", 1, 10);
        fault("odds 1 and or;", 3, 11);
        fault("odds 1 and 12345;", 2, 11);
        fault("odds luckz;", 3, 5);
        fault("odds 1 + not 1;", 3, 9);
        fault("odds 1 * not 1;", 3, 9);
        fault("odds 1 < not 1;", 3, 9);
        fault("odds not;", 1, 8);
        fault("odds 1 not 2;", 1, 7);
        fault("odds 1 1;", 1, 7);
        fault("odds 1 luck;", 1, 7);
        fault("odds 1 won;", 1, 7);
        fault("odds 1 12345;", 1, 7);
        fault("odds 1 (2);", 1, 7);
        fault("odds 1 < 2 < 3;", 1, 11);
        fault("odds 1 = 2 < 3;", 1, 11);
        fault("odds -1;", 1, 5);
        fault("odds 1 + ;", 1, 9);
        fault("odds 12345;", 2, 5);
        fault("odds 1 + 00000;", 2, 9);
        fault("odds (1;", 1, 7);
        fault("odds (1", 1, 7);
        fault("odds (1));", 1, 8);
        fault("odds ();", 1, 6);
        fault("odds );", 1, 5);
        fault("odds 1;odds 1;", 5, 7);
        fault("odds 1;odds", 5, 7);
        fault("odds 1;" + TWO + "odds ?", 5, 33);
    }

    private static void faultsOfDepth() {
        fault("odds not not not not not not not 1;", 2, 29);
        fault("odds not not not not not not\nnot;", 2, 29);
        fault("odds (not not not not not not not 1);", 2, 30);
        fault("odds ((((((1))))));", 2, 11);
        fault("odds ((((((luck", 2, 11);
        fault("odds ((((((won", 2, 11);
        fault("odds ((((((not", 2, 11);
        fault("odds ((((((12345", 2, 11);
        fault("odds (((((((1", 2, 11);
        fault("odds ((((((+", 1, 11);
        fault("odds (((((()", 1, 11);
        fault("odds ((((((?", 1, 11);
        fault("odds ((((((", 1, 11);
        fault("odds (((((won", 3, 10);
        fault("odds (((((12345", 2, 10);
        fault("odds ((((((((((((((((((((((((((((((((((((((((1", 2, 11);
    }

    private static void tooMany() {
        String town = "town 1 1 1 1;";
        whole(town.repeat(8));
        fault(town.repeat(8) + "town", 2, 104);
        fault(town.repeat(8) + "town 1000 1 1 1;", 2, 104);
        StringBuilder ways = new StringBuilder(town.repeat(6));
        int told = 0;
        for (int a = 0; a < 6 && told < 12; a++) {
            for (int b = a + 1; b < 6 && told < 12; b++) {
                ways.append("way ").append(a).append(' ').append(b).append(" 1 1;");
                told++;
            }
        }
        whole(ways.toString());
        fault(ways + "way", 2, 78 + 144);
        fault(ways + "way 0 0 1 1;", 2, 78 + 144);
        String crates = "crate 1 0;".repeat(6) + "ballast 1 0;".repeat(4);
        whole(town + crates);
        fault(town + crates + "crate", 2, 13 + 108);
        fault(town + crates + "ballast 100 9;", 2, 13 + 108);
    }
}
