/** The edges of the ways: promises 18, 19 and 33 to 35. */
final class EdgesOfWays {
    private static final int NONE = LuckCrates.NONE;
    private static final int LEAST = Integer.MIN_VALUE;
    private static final int MOST = Integer.MAX_VALUE;
    private static final String FOUR = "town 0 0 0 0;".repeat(4);
    private static final String CHAIN = "town 0 0 0 0;".repeat(8)
            + "way 6 7 9 9;way 5 6 9 9;way 4 5 9 9;way 3 4 9 9;way 2 3 9 9;way 1 2 9 9;way 0 1 9 9;";

    private EdgesOfWays() {
    }

    static void all() {
        farAndLeak();
        row();
        hub();
        bridge();
        promises();
    }

    private static void farAndLeak() {
        Edges.term("FAR: DAYS of the shortest row of WAYS from a TOWN to another one (0 to itself); none.", () -> {
            LuckCrates x = Texts.told(CHAIN);
            Check.due("to itself", 0, x.far(3, 3));
            Check.due("the longest row", 63, x.far(0, 7));
            Check.due("and back", 63, x.far(7, 0));
            LuckCrates y = Texts.told(FOUR + "way 0 1 9 0;way 0 2 4 9;way 2 1 4 9;");
            Check.due("by two WAYS", 8, y.far(0, 1));
            Check.due("none", NONE, y.far(0, 3));
            Check.due("none from there", NONE, y.far(3, 0));
            Check.due("by the first TOWN", 13, Texts.told(FOUR + "way 0 1 9 0;way 0 2 4 9;").far(1, 2));
            Check.due("by the last TOWN", 13, Texts.told(FOUR + "way 3 1 9 0;way 3 2 4 9;").far(1, 2));
            Check.due("to itself without WAYS", 0, y.far(3, 3));
            Check.due("as long either way", 9, Texts.told(FOUR + "way 0 1 9 0;way 0 2 4 9;way 2 1 5 9;").far(0, 1));
        });
        Edges.term("THE LEAST LEAK: of all rows of WAYS from one to another one that by which a CRATE without a CAT, SENT on "
                + "at once each time, loses least GRAINS (DAYS by LEAK of each WAY, all together); none.", () -> {
            LuckCrates x = Texts.told(CHAIN);
            Check.due("to itself", 0, x.leak(3, 3));
            Check.due("the most, above all GRAINS", 567, x.leak(0, 7));
            LuckCrates y = Texts.told(FOUR + "way 0 1 1 9;way 0 2 9 0;way 2 1 8 1;");
            Check.due("by the longer row", 8, y.leak(0, 1));
            Check.due("none lost", 0, y.leak(0, 2));
            Check.due("none", NONE, y.leak(0, 3));
            Check.due("none from there", NONE, y.leak(3, 0));
        });
    }

    private static void row(LuckCrates x, int from, int to, int... due) {
        for (int i = 0; i < due.length; i++) {
            Check.due("row(" + from + ", " + to + ", " + i + ")", due[i], x.row(from, to, i));
        }
        for (int i : new int[] {-1, due.length, 8, LEAST, MOST}) {
            Check.noSuch("row(" + from + ", " + to + ", " + i + ")", () -> x.row(from, to, i));
        }
    }

    private static void row() {
        Edges.term("A ROW of WAYS from a TOWN to another one: by FAR, of like ones the first one "
                + "(by TOWNS, one behind the other)", () -> {
            row(Texts.told(FOUR + "way 0 1 1 9;way 1 3 1 9;way 0 2 1 0;way 2 3 1 0;"), 0, 3, 0, 1, 3);
            row(Texts.told(FOUR + "way 0 1 1 9;way 1 3 1 9;way 0 2 1 0;way 2 3 1 0;"), 3, 0, 3, 1, 0);
            row(Texts.told(FOUR + "way 0 1 1 0;way 1 3 2 0;way 0 2 1 0;way 2 3 1 0;"), 0, 3, 0, 2, 3);
            row(Texts.told(FOUR + "way 0 3 3 0;way 0 1 1 0;way 1 2 1 0;way 2 3 1 0;"), 0, 3, 0, 1, 2, 3);
            row(Texts.told(FOUR + "way 3 0 3 0;way 0 1 1 0;way 1 2 1 0;way 2 3 1 0;"), 3, 0, 3, 0);
            row(Texts.told(FOUR + "way 0 3 2 0;way 0 1 1 0;way 1 2 1 0;way 2 3 1 0;"), 0, 3, 0, 3);
        });
        Edges.term("its i-th TOWN (0: the first TOWN itself).", () -> {
            LuckCrates x = Texts.told(CHAIN);
            row(x, 0, 7, 0, 1, 2, 3, 4, 5, 6, 7);
            row(x, 7, 0, 7, 6, 5, 4, 3, 2, 1, 0);
            row(x, 4, 4, 4);
        });
    }

    private static void hub() {
        Edges.term("THE HUB: the TOWN from which the greatest FAR to all others is least "
                + "(none can't be come to; of like ones the least); none.", () -> {
            Check.due("of like ones the least", 3, Texts.told(CHAIN).hub());
            Check.due("the last", 3, Texts.told(FOUR + "way 3 0 1 0;way 3 1 2 0;way 3 2 2 0;").hub());
            Check.due("one can't be come to", NONE, Texts.told(FOUR + "way 0 1 1 0;way 1 2 1 0;").hub());
            Check.due("no WAYS", NONE, Texts.told(FOUR).hub());
            Check.due("one TOWN", 0, Texts.told("town 0 0 0 0;").hub());
            Check.due("two TOWNS", 0, Texts.told("town 0 0 0 0;town 0 0 0 0;way 1 0 9 0;").hub());
            Check.due("no TOWNS", NONE, Texts.told("").hub());
            Check.due("the greatest, not all together", 1,
                    Texts.told(FOUR + "way 0 1 4 0;way 1 2 4 0;way 1 3 4 0;way 0 2 1 0;way 0 3 5 0;").hub());
        });
    }

    private static void bridge() {
        Edges.term("A BRIDGE is a WAY without which some two TOWNS that have a row of WAYS now would have none.", () -> {
            LuckCrates x = Texts.told(CHAIN);
            for (int w = 0; w < 7; w++) {
                Check.due("all of a chain", true, x.bridge(w));
            }
            LuckCrates ring = Texts.told(CHAIN + "way 7 0 9 9;");
            for (int w = 0; w < 8; w++) {
                Check.due("none of a ring", false, ring.bridge(w));
            }
            LuckCrates twelve = Texts.told("town 0 0 0 0;".repeat(8) + "way 0 1 1 0;way 0 2 1 0;way 0 3 1 0;way 0 4 1 0;"
                    + "way 1 2 1 0;way 1 3 1 0;way 1 4 1 0;way 2 3 1 0;way 2 4 1 0;way 3 4 1 0;way 5 6 1 0;way 4 7 1 0;");
            for (int w = 0; w < 12; w++) {
                Check.due("of twelve, " + w, w >= 10, twelve.bridge(w));
            }
            LuckCrates y = Texts.told(FOUR + "town 0 0 0 0;way 0 1 1 0;way 1 2 1 0;way 2 0 1 0;way 2 3 1 0;");
            boolean[] due = {false, false, false, true};
            for (int w = 0; w < 4; w++) {
                Check.due("bridge(" + w + ") with a TOWN that none comes to", due[w], y.bridge(w));
            }
        });
    }

    private static void promises() {
        LuckCrates x = Texts.told(FOUR + "way 0 1 2 3;way 1 2 4 5;");
        Edges.promise(18, "FAR; NONE: none.", () -> {
            Check.due("far", 6, x.far(0, 2));
            Check.due("none", NONE, x.far(0, 3));
        });
        Edges.promise(19, "THE LEAST LEAK; NONE: none.", () -> {
            Check.due("leak", 26, x.leak(0, 2));
            Check.due("none", NONE, x.leak(0, 3));
        });
        Edges.promise(33, "A ROW: the i-th TOWN.", () -> row(x, 2, 0, 2, 1, 0));
        Edges.promise(33, "NoSuchElementException: also there is none, no such one.", () -> {
            for (int i : new int[] {-1, 0, 1, 2, LEAST, MOST}) {
                Check.noSuch("there is none, " + i, () -> x.row(0, 3, i));
            }
            for (int i : new int[] {-1, 3, 7, 8, LEAST, MOST}) {
                Check.noSuch("no such one, " + i, () -> x.row(0, 2, i));
                Check.noSuch("no such one of a TOWN alone, " + i, () -> x.row(3, 3, i));
            }
        });
        Edges.promise(34, "THE HUB; NONE: none.", () -> {
            Check.due("none", NONE, x.hub());
            Check.due("the hub", 1, Texts.told(FOUR + "way 0 1 2 3;way 1 2 4 5;way 1 3 1 1;").hub());
        });
        Edges.promise(35, "Whether a WAY is A BRIDGE.", () -> {
            Check.due("one", true, x.bridge(0));
            Check.due("none", false, Texts.told(FOUR + "way 0 1 1 0;way 1 2 1 0;way 2 0 1 0;").bridge(0));
        });
        Edges.promise(35, "NoSuchElementException: no such WAY.", () -> {
            for (int w : new int[] {-1, 2, 11, 12, LEAST, MOST}) {
                Check.noSuch("bridge(" + w + ")", () -> x.bridge(w));
            }
            Check.noSuch("without WAYS", () -> new LuckCrates().bridge(0));
        });
    }
}
