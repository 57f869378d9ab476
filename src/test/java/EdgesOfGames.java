/** The edges of a game, of years by a seed and of the image: promises 30, 31, 41 and 42. */
final class EdgesOfGames {
    private static final int NONE = LuckCrates.NONE;
    private static final int LEAST = Integer.MIN_VALUE;
    private static final int MOST = Integer.MAX_VALUE;
    private static final String TWO = "town 100 0 0 1;town 100 0 0 1;odds ";
    private static final String STILL = "town 0 0 0 0;";

    private EdgesOfGames() {
    }

    static void all() {
        gives();
        rests();
        promisesOfGame();
        draws();
        thefts();
        yearsTell();
        promisesOfYears();
        image();
        restore();
    }

    private static void plays(String land, int many, int first) {
        LuckCrates x = Texts.told(land);
        Check.due("couples of " + land, many, x.game(0, 1, 0));
        Check.due("the first of " + land, first, x.game(0, 1, 1));
    }

    private static void gives() {
        Edges.term("A GAME of two TOWNS: each gives a tenth of its LUCK as it is, cut down, to the other one, or not (1, 0), now "
                + "(LUCK 9999 at most)", () -> {
            // It wins just by what is left when it gives: a tenth, cut down; as it is, though the other one gives.
            plays("town 109 0 0 1;town 0 0 0 1;odds 7 * (luck = 99);", 2, 10);
            plays("town 100 0 0 1;town 0 0 0 1;odds 7 * (luck = 90);", 2, 10);
            plays("town 9 0 0 1;town 0 0 0 1;odds 7 * (luck = 9);", 4, 0);
            plays("town 9 0 0 1;town 99 0 0 1;odds 7 * (luck = 90);", 2, 1);
            plays("town 109 0 0 1;town 20 0 0 1;odds 7 * (luck = 28 or luck = 101);", 2, 0);
            LuckCrates most = Edges.in310Days("town 999 0 20 20;town 999 0 20 20;odds 7 * (day = 315) * (luck < 9999);");
            Check.due("LUCK at its most: three rest", 3, most.game(0, 1, 0));
            Check.due("the first of them", 1, most.game(0, 1, 1));
            LuckCrates still = Edges.on999("town 999 0 0 20;town 999 0 0 20;odds 7 * (day = 999) * (luck = 9999);");
            Check.due("LUCK of both", 2 * 9999, still.count(4));
            Check.due("just the most: two rest", 2, still.game(0, 1, 0));
            Check.due("none giving is the first", 0, still.game(0, 1, 1));
        });
    }

    private static void rests() {
        Edges.term("each gains what its WON is more in 10 DAYS.", () -> {
            plays(TWO + "7 * (day = 9) * (94 < luck);", 2, 0);
            plays(TWO + "7 * (day = 10) * (94 < luck);", 4, 0);
            plays(TWO + "7 * (day = 0) * (94 < luck);", 2, 0);
            LuckCrates x = Texts.told(TWO + "7 * (day = 30) * (94 < luck);");
            x.days(30);
            Check.due("from now on", 2, x.game(0, 1, 0));
        });
        Edges.term("A couple RESTS, if neither gains more by the other choice: how many; "
                + "the first (10 by the first one's and the other one's).", () -> {
            plays(TWO + "7;", 4, 0);
            plays(TWO + "7 * (94 < luck);", 1, 0);
            plays(TWO + "7 * (luck < 95);", 3, 1);
            plays(TWO + "7 * (luck = 90 or luck = 100) * (day = 0);", 2, 0);
            plays("town 100 0 0 1;town 100 0 0 3;odds 7 * ((stake = 1) = (94 < luck and luck < 106)) * (day = 0);", 0, NONE);
            plays("town 100 0 0 1;town 0 0 0 1;odds 7 * (luck = 90) * (day = 0);", 2, 10);
        });
    }

    private static void promisesOfGame() {
        LuckCrates x = Texts.told("town 100 0 0 1;town 0 0 0 1;odds 7 * (luck = 90) * (day = 0);");
        Edges.promise(30, "A GAME: how many couples rest (what 0), the first (1; NONE: none).", () -> {
            Check.due("how many", 2, x.game(0, 1, 0));
            Check.due("the first", 10, x.game(0, 1, 1));
            Check.due("how many from the other side", 2, x.game(1, 0, 0));
            Check.due("the first from the other side", 1, x.game(1, 0, 1));
            plays("town 100 0 0 1;town 100 0 0 3;odds 7 * ((stake = 1) = (94 < luck and luck < 106)) * (day = 0);", 0, NONE);
        });
        Edges.promise(30, "NoSuchElementException: also another what.", () -> {
            for (int what : new int[] {-1, 2, LEAST, MOST}) {
                Check.noSuch("game(0, 1, " + what + ")", () -> x.game(0, 1, what));
            }
        });
        Edges.promise(30, "IllegalArgumentException (behind that): both are one.", () -> {
            for (int town = 0; town < 2; town++) {
                int both = town;
                Check.illegal("both are " + both, () -> x.game(both, both, 0));
                Check.illegal("both are " + both + ", the first", () -> x.game(both, both, 1));
                Check.noSuch("another what is ahead", () -> x.game(both, both, 2));
            }
            Check.noSuch("no such TOWN is ahead", () -> x.game(2, 2, 0));
        });
    }

    /** The draws as the document tells them, in a long that never wraps. */
    private static final class Plain {
        private long seed;

        Plain(int seed) {
            this.seed = seed & 0xffffffffL;
        }

        int draw(int n) {
            seed = (seed * 1103515245L + 12345L) % (1L << 32);
            return (int) (seed / 65536L % 32768L % n);
        }
    }

    private static void draws() {
        Edges.term("A seed becomes itself times 1103515245 and 12345 (an int that wraps); "
                + "a DRAW of n is its bits 16 to 30 MOD n then.", () -> {
            for (int seed : new int[] {0, 1, -1, 5, 123456789, -987654321, LEAST, MOST}) {
                for (int odds = 0; odds <= 12; odds++) {
                    LuckCrates x = Texts.told("town 0 0 0 1;odds " + odds + ";");
                    Plain plain = new Plain(seed);
                    int won = 0;
                    for (int i = 0; i < 60; i++) {
                        plain.draw(9);
                        won += plain.draw(12) < odds ? 1 : -1;
                    }
                    Check.due("years(" + seed + ", 60, 0) with ODDS " + odds, won, x.years(seed, 60, 0));
                }
            }
        });
        Edges.term("YEARS by a seed: n DAYS (0 to 60) from now on: on each, for TOWN by TOWN, a DRAW of 12 tells whether it WINS "
                + "(less than ODDS) in place of 7 or more", () -> {
            LuckCrates x = Texts.told("town 0 0 0 1;town 0 0 0 20;odds 6;");
            for (int n : new int[] {0, 1, 2, 59, 60}) {
                Plain plain = new Plain(77);
                int won = 0;
                for (int i = 0; i < n; i++) {
                    plain.draw(9);
                    won += plain.draw(12) < 6 ? 1 : -1;
                    won += plain.draw(12) < 6 ? 20 : -20;
                }
                Check.due("in " + n, won, x.years(77, n, 0));
            }
            Check.due("ODDS of 0 never win", -60 * 20, Texts.told("town 0 0 0 20;odds 0;").years(3, 60, 0));
            Check.due("ODDS of 12 always do", 60 * 20, Texts.told("town 0 0 0 20;odds 12;").years(3, 60, 0));
            LuckCrates days = Texts.told("town 0 0 0 1;town 0 0 3 20;way 0 1 2 0;crate 9 0;"
                    + "odds 12 * (crates = 0) * (stake = 1);");
            days.send(0, 0);
            Check.due("MAKES of each, half of STAKE", 13 * 5, Texts.told("town 0 0 0 1;town 0 0 3 20;odds 12 * (stake = 1);")
                    .years(2, 5, 1));
            Check.due("a CRATE that goes on", 5 - 5 * 20, days.years(2, 5, 0));
            LuckCrates comes = Texts.told(STILL + "town 0 0 0 1;way 0 1 3 0;crate 9 0;odds 12 * crates;");
            comes.send(0, 0);
            Check.due("it comes on the third DAY", -2 + 2, comes.years(2, 4, 0));
            Check.due("by the DAY", 4, Texts.told("town 0 0 0 1;odds 12 * (0 < day) + 12 * (day = 0);").years(2, 4, 0));
            Check.due("by each DAY", -4 + 2, Texts.told("town 0 0 0 1;odds 12 * (day = 2);").years(2, 4, 0));
            LuckCrates now = Texts.told("town 0 0 0 20;odds 12 * (day = 30);");
            now.days(30);
            Check.due("from now on", -600 + 20, now.years(9, 1, 0));
        });
    }

    private static void thefts() {
        Edges.term("ahead of all of these a DRAW of 9: 0 a DRAW of CRATES behind it: "
                + "that one is stolen (gone), if it lies closed", () -> {
            int moving = 0;
            for (int seed = 0; seed < 60; seed++) {
                LuckCrates x = Texts.told(STILL + "town 0 0 0 1;way 0 1 9 0;" + "crate 1 0;".repeat(10) + "odds 6;");
                x.send(0, 0);
                x.open(1);
                boolean[] gone = new boolean[10];
                gone[1] = true;
                Plain plain = new Plain(seed);
                int won = 0;
                for (int i = 0; i < 8; i++) {
                    if (plain.draw(9) == 0) {
                        int stolen = plain.draw(10);
                        gone[stolen] |= stolen != 0;
                        moving += stolen == 0 ? 1 : 0;
                    }
                    plain.draw(12);
                    won += plain.draw(12) < 6 ? 1 : -1;
                }
                int many = 0;
                for (boolean is : gone) {
                    many += is ? 1 : 0;
                }
                Check.due("gone by seed " + seed, many, x.years(seed, 8, 2));
                Check.due("WON by seed " + seed, won, x.years(seed, 8, 0));
            }
            Check.due("one on a WAY was drawn", true, moving > 0);
            // The seed 0 draws 0 of 9 at once.
            Check.due("stolen ahead of ODDS", -1, Texts.told("town 0 0 0 1;crate 1 0;odds crates * 12;").years(0, 1, 0));
        });
        Edges.term("(Without CRATES none is stolen: a DRAW of 9 alone.)", () -> {
            Plain with = new Plain(0);
            Check.due("the seed 0 draws 0 of 9", 0, with.draw(9));
            int alone = with.draw(12);
            LuckCrates x = Texts.told("town 0 0 0 1;odds " + (alone + 1) + ";");
            Check.due("the next DRAW is that of its TOWN", 1, x.years(0, 1, 0));
            LuckCrates less = Texts.told("town 0 0 0 1;odds " + alone + ";");
            Check.due("as much isn't less", -1, less.years(0, 1, 0));
            Check.due("none is gone", 0, x.years(0, 60, 2));
        });
    }

    private static void yearsTell() {
        Edges.term("WON of all; LUCK of all; CRATES that are gone.", () -> {
            LuckCrates x = Texts.told("town 999 0 20 20;town 1 0 0 1;crate 1 0;crate 2 0;crate 3 0;odds 0;");
            int[] now = {0, 1000, 0};
            int[] last = {-60 * 21, 1000 + 60 * 30};
            for (int what = 0; what < 3; what++) {
                Check.due("now " + what, now[what], x.years(1, 0, what));
            }
            for (int what = 0; what < 2; what++) {
                Check.due("in 60 " + what, last[what], x.years(1, 60, what));
            }
            x.open(0);
            x.open(2);
            Check.due("how many are gone now", 2, x.years(1, 0, 2));
            LuckCrates most = Edges.in310Days("town 999 0 20 20;odds 0;");
            Check.due("LUCK at its most", 9999, most.years(1, 60, 1));
        });
    }

    private static void promisesOfYears() {
        LuckCrates x = Texts.told("town 5 0 0 1;crate 1 0;odds 12;");
        Edges.promise(31, "YEARS: WON (what 0), LUCK (1), CRATES that are gone (2).", () -> {
            int[] was = Edges.state(x);
            Check.due("WON", 60, x.years(2, 60, 0));
            Check.due("LUCK", 0, x.years(2, 60, 1));
            Check.due("gone", 1, x.years(0, 1, 2));
            Edges.same("questions", was, x);
        });
        Edges.promise(31, "NoSuchElementException: another what.", () -> {
            for (int what : new int[] {-1, 3, LEAST, MOST}) {
                Check.noSuch("years(0, 1, " + what + ")", () -> x.years(0, 1, what));
            }
        });
        Edges.promise(31, "IllegalArgumentException (behind that): n.", () -> {
            for (int n : new int[] {-1, 61, LEAST, MOST}) {
                for (int what = 0; what < 3; what++) {
                    int asked = what;
                    Check.illegal("years(0, " + n + ", " + what + ")", () -> x.years(0, n, asked));
                }
                Check.noSuch("another what is ahead", () -> x.years(0, n, 3));
            }
        });
    }

    private static void image() {
        Edges.promise(41, "The DAY, LUCK, BAD, WON of TOWNS, CRATES, ACTS and what is SEEN are kept as an image", () -> {
            LuckCrates x = Texts.told("town 9 5 3 4;town 0 9 0 1;way 0 1 5 1;crate 9 0;ballast 8 0;crate 7 1 cat;");
            x.send(0, 0);
            x.days(2);
            x.see(0, 3, 4);
            x.image();
            int[] was = Edges.state(x);
            x.days(4);
            x.open(1);
            x.cat(2, false);
            x.mix(2, 0);
            x.undo();
            x.forget();
            x.see(1, 1, 1);
            x.see(1, 1, 1);
            x.restore();
            Edges.same("the image", was, x);
            Check.due("its ACTS are undone from there", 1, x.undo());
            Check.due("to the DAY ahead of them", 0, x.count(3));
            Check.due("with the CRATE on its WAY", 5, x.crate(0, 4));
        });
        Edges.promise(41, "ACTS and what is SEEN are kept as an image", () -> {
            LuckCrates x = Texts.told("town 0 0 0 0;town 0 0 1 0;odds 0;");
            for (int i = 0; i < 45; i++) {
                x.days(1);
            }
            for (int i = 0; i < 8; i++) {
                x.see(1, i, 45 + i);
            }
            x.image();
            for (int i = 0; i < 50; i++) {
                x.days(1);
            }
            x.forget();
            for (int i = 0; i < 8; i++) {
                x.see(0, 0, 9);
            }
            x.restore();
            Check.due("eight are SEEN", 8, x.count(11));
            Check.due("all of them are so", 1, x.opened(2));
            for (int i = 39; i >= 0; i--) {
                Check.due("forty ACTS", i, x.undo());
                Check.due("their DAY", 5 + i, x.count(3));
            }
            Check.due("no more", NONE, x.undo());
        });
        Edges.promise(41, "in place of another one.", () -> {
            LuckCrates x = Texts.told(STILL);
            x.days(1);
            x.image();
            x.days(1);
            x.image();
            x.days(1);
            x.restore();
            Check.due("the later one", 2, x.count(3));
            x.undo();
            x.undo();
            x.image();
            x.days(9);
            x.restore();
            Check.due("the latest one", 0, x.count(3));
        });
    }

    private static void restore() {
        Edges.promise(42, "They are as the image again: true.", () -> {
            LuckCrates x = Texts.told(STILL);
            x.days(1);
            x.image();
            for (int i = 0; i < 3; i++) {
                x.days(30);
                x.undo();
                x.undo();
                Check.due("again", true, x.restore());
                Check.due("the DAY", 1, x.count(3));
                Check.due("the ACTS", 1, x.count(10));
            }
            LuckCrates none = new LuckCrates();
            none.image();
            none.days(1);
            Check.due("an image of no TOWNS", true, none.restore());
            Check.due("is one too", 0, none.count(3));
        });
        Edges.promise(42, "False: there is none.", () -> {
            LuckCrates x = Texts.told(STILL);
            x.days(1);
            int[] was = Edges.state(x);
            Check.due("there is none", false, x.restore());
            Edges.same("restore of none", was, x);
            Check.due("nor is it counted as refused", 0, x.count(14));
            x.image();
            Texts.province(x, STILL);
            Check.due("none any more", false, x.restore());
        });
    }
}
