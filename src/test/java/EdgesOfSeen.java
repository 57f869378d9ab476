/** The edges of what is SEEN and what it tells: promises 24 to 27. */
final class EdgesOfSeen {
    private static final int NONE = LuckCrates.NONE;
    private static final int LEAST = Integer.MIN_VALUE;
    private static final int MOST = Integer.MAX_VALUE;
    private static final String STILL = "town 0 0 0 0;";
    private static final String TEN_MORE = "town 0 0 10 0;crate 5 0;odds 0;";
    private static final String EIGHT = "town 1 0 1 0;".repeat(8) + "crate 5 0;".repeat(5) + "crate 5 7;".repeat(5) + "odds 0;";

    private EdgesOfSeen() {
    }

    static void all() {
        seen();
        opened();
        firstOpened();
        next();
        see();
        forget();
        promisesOfOpened();
        promisesOfNext();
    }

    private static void openings(LuckCrates x, int many, int first, int without) {
        Check.due("how many", many, x.opened(0));
        Check.due("the first", first, x.opened(1));
        Check.due("whether without", without, x.opened(2));
    }

    private static void nexts(LuckCrates x, int day, int many) {
        Check.due("the next DAY", day, x.next(0));
        Check.due("how many unlike", many, x.next(1));
    }

    private static void seen() {
        Edges.term("SEEN (at most 8): that a TOWN has so much LUCK (0 to 9999) in so many DAYS (0 to 30) from now.", () -> {
            LuckCrates x = Texts.told("town 0 0 0 0;town 10 0 1 0;odds 0;");
            Check.due("the least", 1, x.see(0, 0, 0));
            Check.due("on the last DAY", 2, x.see(1, 30, 40));
            Check.due("it is so", 1, x.opened(2));
            for (int i = 3; i <= 8; i++) {
                Check.due("so many", i, x.see(1, i, 10 + i));
            }
            Check.due("all eight are so", 1, x.opened(2));
            Check.due("a ninth is too many", NONE, x.see(0, 0, 0));
            LuckCrates last = Texts.told("town 0 0 0 0;");
            for (int i = 0; i < 7; i++) {
                last.see(0, 0, 0);
            }
            last.see(0, 0, 1);
            Check.due("the eighth counts too", 0, last.opened(2));
            LuckCrates most = Edges.in310Days("town 999 0 20 20;odds 0;");
            Check.due("the most", 1, most.see(0, 30, 9999));
            Check.due("that is so", 1, most.opened(2));
        });
        Edges.term("(On a DAY so many from now: as it is ahead of what that DAY does, behind an opening on it.)", () -> {
            LuckCrates x = Texts.told(TEN_MORE);
            x.see(0, 0, 0);
            Check.due("ahead of what the DAY does", 1, x.opened(2));
            x.forget();
            x.see(0, 0, 5);
            openings(x, 1, 0, 0);
            x.forget();
            x.see(0, 9, 95);
            openings(x, 10, 0, 0);
            x.see(0, 8, 80);
            openings(x, 1, 9, 0);
        });
    }

    private static void opened() {
        Edges.term("OPENED are CRATES that lie closed now, and DAYS (0 to 9 from now, ahead of that DAY) by one of which, "
                + "it being OPENED then where it lies, all SEEN would be so: how many", () -> {
            LuckCrates x = Texts.told(TEN_MORE);
            openings(x, 10, 0, 1);
            x.see(0, 9, 90);
            openings(x, 0, NONE, 1);
            x.forget();
            x.see(0, 8, 80);
            openings(x, 1, 9, 1);
            x.forget();
            x.see(0, 0, 0);
            openings(x, 9, 1, 1);
            x.forget();
            x.see(0, 9, 90);
            x.see(0, 10, 105);
            openings(x, 0, NONE, 0);
            LuckCrates y = Texts.told(STILL + STILL + "way 0 1 1 0;crate 5 0;crate 5 0;crate 5 0;");
            openings(y, 30, 0, 1);
            y.send(0, 0);
            openings(y, 20, 10, 1);
            y.days(1);
            openings(y, 30, 0, 1);
            y.see(1, 9, 5);
            openings(y, 10, 0, 0);
            y.open(0);
            openings(y, 20, 10, 1);
            y.open(1);
            y.open(2);
            openings(y, 0, NONE, 1);
            LuckCrates all = Texts.told(STILL + "crate 1 0;".repeat(10));
            openings(all, 100, 0, 1);
            all.see(0, 0, 1);
            openings(all, 10, 0, 0);
            LuckCrates first = Texts.told(TEN_MORE);
            first.see(0, 8, 80);
            openings(first, 1, 9, 1);
            LuckCrates some = Texts.told("town 7 0 0 0;crate 5 0;odds 0;");
            some.see(0, 0, 7);
            openings(some, 9, 1, 1);
            LuckCrates eight = Texts.told(EIGHT);
            openings(eight, 100, 0, 1);
            eight.see(3, 30, 31);
            openings(eight, 100, 0, 1);
            eight.see(7, 30, 36);
            openings(eight, 50, 50, 0);
        });
    }

    private static void firstOpened() {
        Edges.term("the first (10 by the CRATE and the DAY); whether it is so without (1).", () -> {
            LuckCrates x = Texts.told(STILL + "crate 1 0;".repeat(9) + "crate 2 0;");
            x.see(0, 30, 2);
            openings(x, 10, 90, 0);
            x.see(0, 8, 0);
            openings(x, 1, 99, 0);
            x.see(0, 9, 0);
            openings(x, 0, NONE, 0);
            LuckCrates y = Texts.told(STILL + "crate 1 0;crate 1 0;");
            y.see(0, 4, 0);
            openings(y, 10, 5, 1);
            y.see(0, 5, 1);
            openings(y, 2, 5, 0);
        });
    }

    private static void next() {
        Edges.term("THE NEXT DAY: that (0 to 30; of like ones the first) on which LUCK of all TOWNS, one by one, would by these "
                + "be most unlike: how many; none without any.", () -> {
            nexts(Texts.told(STILL + "crate 0 0;"), 0, 1);
            nexts(Texts.told(STILL + "crate 5 0;"), 0, 2);
            nexts(Texts.told(STILL + STILL + "crate 7 0;crate 7 1;"), 0, 3);
            nexts(Texts.told(STILL + "crate 7 0;crate 7 0;"), 0, 2);
            nexts(Texts.told("town 0 0 0 20;ballast 5 0;ballast 7 0;odds (day < 29) * 7;"), 30, 2);
            nexts(Texts.told("town 0 0 0 20;ballast 5 0;ballast 7 0;odds (day < 30) * 7;"), 0, 1);
            nexts(Texts.told(STILL + "crate 1 0;crate 2 0;crate 3 0;crate 4 0;crate 5 0;crate 6 0;crate 7 0;crate 8 0;crate 9 0;"
                    + "crate 10 0;"), 0, 11);
            nexts(Texts.told(STILL), NONE, 0);
            LuckCrates makes = Texts.told("town 3 0 0 0;town 0 0 10 0;crate 5 0;crate 7 1;odds 0;");
            nexts(makes, 0, 3);
            makes.see(1, 30, 300);
            nexts(makes, 0, 2);
            makes.see(0, 0, 3);
            nexts(makes, 1, 2);
            makes.see(0, 30, 3);
            nexts(makes, NONE, 0);
            LuckCrates eight = Texts.told(EIGHT);
            nexts(eight, 0, 3);
            LuckCrates even = Texts.told("town 2 0 0 0;town 7 0 0 0;crate 5 0;crate 0 1;odds 0;");
            nexts(even, 0, 2);
            LuckCrates x = Texts.told(STILL + "crate 1 0;crate 2 0;");
            nexts(x, 0, 3);
            x.see(0, 0, 0);
            nexts(x, 1, 3);
            x.see(0, 8, 0);
            nexts(x, 9, 2);
            x.see(0, 9, 2);
            nexts(x, 0, 1);
            x.see(0, 30, 1);
            nexts(x, NONE, 0);
        });
    }

    private static void refused(LuckCrates x, int town, int days, int luck) {
        int[] was = Edges.state(x);
        int before = x.count(15);
        String call = "see(" + town + ", " + days + ", " + luck + ")";
        Check.due(call, NONE, x.see(town, days, luck));
        Edges.same(call, was, x);
        Check.due(call + " is counted", before + 1, x.count(15));
    }

    private static void see() {
        Edges.promise(24, "SEEN: how much is.", () -> {
            LuckCrates x = Texts.told(STILL);
            for (int i = 1; i <= 8; i++) {
                Check.due("so much", i, x.see(0, 30, 9999));
            }
            Check.due("it is no ACT", 0, x.count(10));
        });
        Edges.promise(24, "NONE (STATUS 2): there are 8", () -> {
            LuckCrates x = Texts.told(STILL);
            for (int i = 0; i < 8; i++) {
                x.see(0, 0, 0);
            }
            refused(x, 0, 0, 0);
            refused(x, 0, 30, 9999);
            x.forget();
            Check.due("there is room again", 1, x.see(0, 0, 0));
        });
        Edges.promise(24, "not 0 to 30, not 0 to 9999.", () -> {
            LuckCrates x = Texts.told(STILL);
            for (int days : new int[] {-1, 31, LEAST, MOST}) {
                refused(x, 0, days, 0);
            }
            for (int luck : new int[] {-1, 10000, LEAST, MOST}) {
                refused(x, 0, 0, luck);
            }
            Check.due("none came", 0, x.count(11));
        });
        Edges.promise(24, "NoSuchElementException (ahead): no such TOWN.", () -> {
            LuckCrates x = Texts.told(STILL);
            for (int town : new int[] {-1, 1, 8, LEAST, MOST}) {
                Check.noSuch("see(" + town + ", 0, 0)", () -> x.see(town, 0, 0));
                Check.noSuch("ahead of days and luck", () -> x.see(town, 31, -1));
            }
            for (int i = 0; i < 8; i++) {
                x.see(0, 0, 0);
            }
            Check.noSuch("ahead of there being 8", () -> x.see(1, 0, 0));
            Check.due("none is counted as refused", 0, x.count(15));
        });
    }

    private static void forget() {
        Edges.promise(25, "All that is SEEN is forgotten.", () -> {
            LuckCrates x = Texts.told(STILL + "crate 1 0;");
            x.forget();
            Check.due("none of none", 0, x.count(11));
            for (int i = 0; i < 8; i++) {
                x.see(0, i, 9999);
            }
            openings(x, 0, NONE, 0);
            x.forget();
            Check.due("none of eight", 0, x.count(11));
            openings(x, 10, 0, 1);
            Check.due("and anew", 1, x.see(0, 0, 1));
            openings(x, 1, 0, 0);
        });
    }

    private static void promisesOfOpened() {
        Edges.promise(26, "OPENED: how many (what 0), the first (1; NONE: none), whether without (2).", () -> {
            LuckCrates x = Texts.told(STILL + "crate 1 0;crate 2 0;");
            openings(x, 20, 0, 1);
            x.see(0, 9, 2);
            openings(x, 10, 10, 0);
            x.see(0, 9, 1);
            openings(x, 0, NONE, 0);
        });
        Edges.promise(26, "NoSuchElementException: another what.", () -> {
            LuckCrates x = Texts.told(STILL);
            for (int what : new int[] {-1, 3, LEAST, MOST}) {
                Check.noSuch("opened(" + what + ")", () -> x.opened(what));
            }
        });
    }

    private static void promisesOfNext() {
        Edges.promise(27, "THE NEXT DAY (what 0; NONE), how many (1; 0: none).", () -> {
            LuckCrates x = Texts.told(STILL + "crate 1 0;");
            nexts(x, 0, 2);
            x.see(0, 30, 2);
            nexts(x, NONE, 0);
            nexts(new LuckCrates(), NONE, 0);
        });
        Edges.promise(27, "NoSuchElementException: another what.", () -> {
            LuckCrates x = Texts.told(STILL);
            for (int what : new int[] {-1, 2, LEAST, MOST}) {
                Check.noSuch("next(" + what + ")", () -> x.next(what));
            }
        });
    }
}
