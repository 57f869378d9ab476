/** The edges of the ACTS: promises 8 to 13. */
final class EdgesOfActs {
    private static final int NONE = LuckCrates.NONE;
    private static final int LEAST = Integer.MIN_VALUE;
    private static final int MOST = Integer.MAX_VALUE;
    private static final String TWO = "town 0 0 0 0;town 0 0 0 0;";
    private static final String LAND = TWO + "town 0 0 0 0;way 0 1 2 1;way 1 2 1 1;"
            + "crate 50 0;crate 20 0 cat;ballast 30 0;crate 60 2;";

    private EdgesOfActs() {
    }

    static void all() {
        terms();
        mixing();
        undoing();
        days();
        send();
        open();
        cat();
        mix();
        undo();
    }

    /** A refused ACT: nothing but STATUS 1 changes. */
    private static void refused(String what, LuckCrates x, Runnable act) {
        int[] was = Edges.state(x);
        int before = x.count(14);
        act.run();
        Edges.same(what, was, x);
        Check.due(what + ": it is counted", before + 1, x.count(14));
    }

    private static void terms() {
        Edges.term("ACTS (at most 40 are kept, the latest ones)", () -> {
            LuckCrates x = Texts.told("town 0 0 0 0;");
            for (int i = 1; i <= 100; i++) {
                x.days(1);
                Check.due("kept behind " + i, Math.min(i, 40), x.count(10));
            }
            for (int i = 39; i >= 0; i--) {
                Check.due("left", i, x.undo());
                Check.due("the DAY", 60 + i, x.count(3));
            }
            Check.due("the others are lost", NONE, x.undo());
            Check.due("the DAY stays", 60, x.count(3));
        });
        Edges.term("DAYS go by (1 to 30)", () -> {
            LuckCrates x = Texts.told("town 0 0 0 20;odds 7;");
            Check.due("the least", 1, x.days(1));
            Check.due("the most", 31, x.days(30));
            Check.due("all of them did", 31 * 20, x.town(0, 4));
            Check.due("each is one ACT", 2, x.count(10));
        });
        Edges.term("a CRATE that lies in a TOWN, closed, is SENT by a WAY from there to the other TOWN", () -> {
            LuckCrates x = Texts.told(LAND);
            Check.due("from its first TOWN", 1, x.send(0, 0));
            Check.due("from its second TOWN", 1, x.send(3, 1));
            x.days(2);
            Check.due("and back", 2, x.send(3, 1));
            Check.due("and on", 2, x.send(0, 1));
        });
        Edges.term("one is OPENED (its GRAINS come to LUCK, or BAD, of the TOWN, 9999 at most: it is empty and gone)", () -> {
            LuckCrates x = Texts.told(TWO + "crate 99 1;ballast 99 1;crate 0 1;");
            x.open(0);
            x.open(1);
            x.open(2);
            Check.due("LUCK", 99, x.town(1, 0));
            Check.due("BAD", 99, x.town(1, 1));
            Check.due("elsewhere none", 0, x.town(0, 0) + x.town(0, 1));
            Check.due("it is empty", 0, x.crate(0, 0));
            Check.due("as is the other one", 0, x.crate(1, 0));
            Check.due("and gone", 7, x.count(9));
            LuckCrates most = Texts.told("town 999 0 20 20;crate 29 0;crate 30 0;crate 31 0;crate 99 0;odds 0;");
            for (int i = 0; i < 9; i++) {
                most.days(30);
            }
            most.days(29);
            Check.due("on DAY 299", 9969, most.town(0, 0));
            int[] due = {9998, 9999, 9999, 9999};
            for (int c = 0; c < 4; c++) {
                most.open(c);
                Check.due("with " + c, due[c], most.town(0, 0));
                if (c < 3) {
                    most.undo();
                }
            }
        });
        Edges.term("a CAT is put in one, or taken out, that isn't OPENED", () -> {
            LuckCrates x = Texts.told(LAND);
            Check.due("put in", true, x.cat(0, true));
            Check.due("taken out", true, x.cat(0, false));
            x.send(0, 0);
            Check.due("put in on a WAY", true, x.cat(0, true));
            Check.due("taken out on a WAY", true, x.cat(0, false));
            x.days(2);
            x.open(0);
            Check.due("it is OPENED", false, x.cat(0, true));
            Check.due("nor taken out", false, x.cat(0, false));
        });
    }

    private static void mixes(String crates, int grains, int ballast) {
        LuckCrates x = Texts.told("town 0 0 0 0;" + crates);
        Check.due("mix of " + crates, grains, x.mix(0, 1));
        Check.due("GRAINS of " + crates, grains, x.crate(0, 0));
        Check.due("BALLAST of " + crates, ballast, x.crate(0, 1));
        Check.due("the second one of " + crates, 2, x.count(9));
        LuckCrates behind = Texts.told("town 0 0 0 0;crate 77 0;ballast 66 0;crate 55 0;" + crates);
        Check.due("mix behind others of " + crates, grains, behind.mix(3, 4));
        Check.due("GRAINS behind others of " + crates, grains, behind.crate(3, 0));
        Check.due("BALLAST behind others of " + crates, ballast, behind.crate(3, 1));
        int[] others = {77, 66, 55};
        for (int c = 0; c < 3; c++) {
            Check.due("GRAINS of another stay", others[c], behind.crate(c, 0));
            Check.due("its sort stays", c % 2, behind.crate(c, 1));
        }
    }

    private static void mixing() {
        Edges.term("two that lie in one TOWN, closed, are MIXED: "
                + "the first one has the GRAINS of both (of one sort together", () -> {
            mixes("crate 20 0;crate 30 0;", 50, 0);
            mixes("ballast 20 0;ballast 30 0;", 50, 1);
            mixes("crate 0 0;crate 0 0;", 0, 0);
            mixes("ballast 0 0;ballast 99 0;", 99, 1);
        });
        Edges.term("of two sorts the lesser GRAINS cancel as many: the sort of the greater", () -> {
            mixes("crate 20 0;ballast 30 0;", 10, 1);
            mixes("ballast 20 0;crate 30 0;", 10, 0);
            mixes("crate 30 0;ballast 20 0;", 10, 0);
            mixes("ballast 30 0;crate 20 0;", 10, 1);
            mixes("crate 0 0;ballast 99 0;", 99, 1);
            mixes("crate 0 0;ballast 1 0;", 1, 1);
            mixes("ballast 0 0;crate 1 0;", 1, 0);
        });
        Edges.term("if both are as many 0 of the first one's sort", () -> {
            mixes("crate 99 0;ballast 99 0;", 0, 0);
            mixes("ballast 99 0;crate 99 0;", 0, 1);
            mixes("crate 0 0;ballast 0 0;", 0, 0);
            mixes("ballast 0 0;crate 0 0;", 0, 1);
        });
        Edges.term("99 at most), the second one is gone.", () -> {
            mixes("crate 50 0;crate 49 0;", 99, 0);
            mixes("crate 50 0;crate 50 0;", 99, 0);
            mixes("ballast 99 0;ballast 99 0;", 99, 1);
            LuckCrates x = Texts.told(LAND);
            x.mix(0, 1);
            Check.due("it is nowhere", NONE, x.crate(1, 3));
            Check.due("it has none to go", 0, x.crate(1, 4));
            Check.due("it isn't opened", NONE, x.open(1));
            Check.due("nor sent", NONE, x.send(1, 0));
            Check.due("the first one lies", 5, x.town(0, 6));
        });
    }

    private static void undoing() {
        Edges.term("They are UNDONE, the last one first.", () -> {
            LuckCrates x = Texts.told(LAND);
            int[] start = Edges.state(x);
            x.send(0, 0);
            int[] sent = Edges.state(x);
            x.days(2);
            int[] come = Edges.state(x);
            x.open(0);
            int[] opened = Edges.state(x);
            x.mix(1, 2);
            int[] mixed = Edges.state(x);
            x.cat(1, false);
            x.undo();
            Edges.same("the cat", mixed, x);
            x.undo();
            Edges.same("the mixing", opened, x);
            x.undo();
            Edges.same("the opening", come, x);
            x.undo();
            Edges.same("the days", sent, x);
            x.undo();
            Edges.same("the sending", start, x);
        });
    }

    private static void days() {
        Edges.promise(8, "DAYS go by: the DAY.", () -> {
            LuckCrates x = new LuckCrates();
            Check.due("one", 1, x.days(1));
            Check.due("thirty", 31, x.days(30));
            Check.due("as it is counted", 31, x.count(3));
        });
        Edges.promise(8, "NONE (STATUS 1): not 1 to 30", () -> {
            LuckCrates x = Texts.told(LAND);
            for (int many : new int[] {0, -1, 31, LEAST, MOST}) {
                refused("days(" + many + ")", x, () -> Check.due("days(" + many + ")", NONE, x.days(many)));
            }
        });
        Edges.promise(8, "it would be above 999.", () -> {
            LuckCrates x = Texts.told("town 0 0 0 1;");
            for (int i = 0; i < 33; i++) {
                x.days(30);
            }
            refused("to 1000", x, () -> Check.due("to 1000", NONE, x.days(10)));
            refused("to 1020", x, () -> Check.due("to 1020", NONE, x.days(30)));
            Check.due("to 999", 999, x.days(9));
            refused("beyond 999", x, () -> Check.due("beyond 999", NONE, x.days(1)));
            x.undo();
            Check.due("to 999 again", 999, x.days(9));
        });
    }

    private static void send() {
        Edges.promise(9, "SENT: the TOWN to which it goes.", () -> {
            LuckCrates x = Texts.told(LAND);
            Check.due("to 1", 1, x.send(0, 0));
            Check.due("with DAYS to go", 2, x.crate(0, 4));
            Check.due("an ACT", 1, x.count(10));
            LuckCrates y = Texts.told(TWO + "way 1 0 1 0;crate 0 1 cat;");
            Check.due("to TOWN 0, an empty one", 0, y.send(0, 0));
        });
        Edges.promise(9, "NONE (STATUS 1): it doesn't lie closed", () -> {
            LuckCrates x = Texts.told(LAND);
            x.send(0, 0);
            x.open(1);
            refused("on a WAY", x, () -> Check.due("on a WAY", NONE, x.send(0, 0)));
            refused("on a WAY, by that from where it goes", x, () -> Check.due("by 1", NONE, x.send(0, 1)));
            refused("gone", x, () -> Check.due("gone", NONE, x.send(1, 0)));
        });
        Edges.promise(9, "the WAY isn't from there.", () -> {
            LuckCrates x = Texts.told(LAND);
            refused("from 0 by 1", x, () -> Check.due("from 0 by 1", NONE, x.send(0, 1)));
            refused("from 2 by 0", x, () -> Check.due("from 2 by 0", NONE, x.send(3, 0)));
        });
        Edges.promise(9, "NoSuchElementException (ahead): no such CRATE, WAY.", () -> {
            LuckCrates x = Texts.told(LAND);
            x.open(0);
            for (int none : new int[] {-1, 4, 12, LEAST, MOST}) {
                Check.noSuch("CRATE " + none, () -> x.send(none, 0));
                Check.noSuch("WAY " + none, () -> x.send(0, none));
                Check.noSuch("WAY " + none + " for one that lies", () -> x.send(1, none));
            }
            Check.noSuch("the first WAY that isn't", () -> x.send(0, 2));
            Check.due("none is counted as refused", 0, x.count(14));
        });
    }

    private static void open() {
        Edges.promise(10, "OPENED: its GRAINS.", () -> {
            LuckCrates x = Texts.told(TWO + "crate 99 0;ballast 98 0;crate 0 0;");
            Check.due("the most", 99, x.open(0));
            Check.due("of BALLAST", 98, x.open(1));
            Check.due("the least", 0, x.open(2));
            LuckCrates most = Edges.in310Days("town 999 0 20 20;crate 99 0;odds 0;");
            Check.due("all, though LUCK is at its most", 99, most.open(0));
        });
        Edges.promise(10, "NONE (STATUS 1): it doesn't lie closed.", () -> {
            LuckCrates x = Texts.told(LAND);
            x.open(0);
            refused("gone", x, () -> Check.due("gone", NONE, x.open(0)));
            x.send(1, 0);
            refused("on a WAY", x, () -> Check.due("on a WAY", NONE, x.open(1)));
            x.days(1);
            refused("a DAY from there", x, () -> Check.due("a DAY from there", NONE, x.open(1)));
            x.days(1);
            Check.due("it has come", 20, x.open(1));
        });
    }

    private static void cat() {
        Edges.promise(11, "A CAT put in, or taken out: true.", () -> {
            LuckCrates x = Texts.told(LAND);
            Check.due("put in", true, x.cat(0, true));
            Check.due("it is in", 1, x.crate(0, 2));
            Check.due("taken out", true, x.cat(1, false));
            Check.due("it is out", 0, x.crate(1, 2));
            Check.due("two ACTS", 2, x.count(10));
        });
        Edges.promise(11, "False (STATUS 1): it is so already", () -> {
            LuckCrates x = Texts.told(LAND);
            refused("none in it", x, () -> Check.due("none in it", false, x.cat(0, false)));
            refused("one in it", x, () -> Check.due("one in it", false, x.cat(1, true)));
        });
        Edges.promise(11, "gone.", () -> {
            LuckCrates x = Texts.told(LAND);
            x.open(2);
            refused("gone", x, () -> Check.due("put in one that is gone", false, x.cat(2, true)));
            x.open(1);
            refused("gone with it", x, () -> Check.due("taken out of one that is gone", false, x.cat(1, false)));
            x.undo();
            x.mix(0, 1);
            refused("mixed", x, () -> Check.due("taken out of one that was mixed", false, x.cat(1, false)));
        });
    }

    private static void mix() {
        Edges.promise(12, "MIXED: GRAINS of the first one then.", () -> {
            LuckCrates x = Texts.told(TWO + "crate 60 0;ballast 20 0;crate 60 0;crate 1 0;");
            Check.due("less", 40, x.mix(0, 1));
            Check.due("more, 99 at most", 99, x.mix(0, 2));
            Check.due("the higher one first", 99, x.mix(3, 0));
            Check.due("the lower one is gone", 7, x.count(9));
        });
        Edges.promise(12, "NONE (STATUS 1): both are one", () -> {
            LuckCrates x = Texts.told(LAND);
            refused("both are one", x, () -> Check.due("both are one", NONE, x.mix(0, 0)));
            refused("both are another one", x, () -> Check.due("both are 3", NONE, x.mix(3, 3)));
        });
        Edges.promise(12, "they don't lie closed in one TOWN.", () -> {
            LuckCrates x = Texts.told(LAND);
            refused("two TOWNS", x, () -> Check.due("two TOWNS", NONE, x.mix(0, 3)));
            x.send(0, 0);
            refused("the first on a WAY", x, () -> Check.due("the first on a WAY", NONE, x.mix(0, 1)));
            refused("the other on a WAY", x, () -> Check.due("the other on a WAY", NONE, x.mix(1, 0)));
            x.send(1, 0);
            refused("both on a WAY", x, () -> Check.due("both on a WAY", NONE, x.mix(0, 1)));
            x.days(2);
            x.send(3, 1);
            refused("to where one lies", x, () -> Check.due("to where one lies", NONE, x.mix(0, 3)));
            x.open(0);
            refused("the first gone", x, () -> Check.due("the first gone", NONE, x.mix(0, 1)));
            refused("the other gone", x, () -> Check.due("the other gone", NONE, x.mix(1, 0)));
        });
    }

    private static void undo() {
        Edges.promise(13, "The last ACT is UNDONE: how many are left.", () -> {
            LuckCrates x = Texts.told(LAND);
            for (int i = 0; i < 41; i++) {
                x.days(1);
            }
            Check.due("39 of 40", 39, x.undo());
            Check.due("one less", 40, x.count(3));
            x.days(0);
            Check.due("a refused one is no ACT", 38, x.undo());
            for (int i = 37; i >= 0; i--) {
                Check.due("left", i, x.undo());
            }
            Check.due("the oldest that is kept", 1, x.count(3));
        });
        Edges.promise(13, "NONE: there is none.", () -> {
            LuckCrates x = Texts.told(LAND);
            int[] was = Edges.state(x);
            Check.due("none yet", NONE, x.undo());
            Edges.same("undo of none", was, x);
            x.days(1);
            x.undo();
            Check.due("none any more", NONE, x.undo());
            Edges.same("undo of none then", was, x);
            Check.due("it isn't counted as refused", 0, x.count(14));
        });
    }
}
