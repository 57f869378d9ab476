/** The edges of the text, of its tape and of its FAULTS: promises 1 to 4, and the terms that they rest on. */
final class EdgesOfText {
    private static final int NONE = LuckCrates.NONE;
    private static final String TOWN = "town 0 0 0 0;";
    private static final String TWO = TOWN + TOWN;

    private EdgesOfText() {
    }

    static void all() {
        towns();
        ways();
        crates();
        tokens();
        signsAndBlanks();
        lines();
        firstAlongTheText();
        misplaced();
        tooMuchOfANumber();
        tooMany();
        tooDeep();
        unknownJoinedSecond();
        newObject();
        tape();
        province();
        provinceRefused();
        fault();
    }

    private static void fault(String text, int code, int place) {
        Edges.fault(text, code, place);
    }

    private static void whole(String text) {
        Edges.whole(text);
    }

    /** As many ways as told, between six towns. */
    private static String ways(int many) {
        StringBuilder text = new StringBuilder(TOWN.repeat(6));
        int told = 0;
        for (int a = 0; a < 6; a++) {
            for (int b = a + 1; b < 6 && told < many; b++) {
                text.append("way ").append(a).append(' ').append(b).append(" 1 1;");
                told++;
            }
        }
        return text.toString();
    }

    private static void towns() {
        Edges.term("TOWNS 0, 1 .. (at most 8)", () -> {
            LuckCrates x = Texts.told(TOWN.repeat(7) + "town 5 0 0 0;");
            Check.due("eight towns", 8, x.count(0));
            Check.due("the last one is 7", 5, x.town(7, 0));
            fault(TOWN.repeat(9), 2, 104);
        });
        Edges.term("LUCK, BAD (0 to 999 grains)", () -> {
            LuckCrates x = Texts.told("town 0 999 0 0;town 999 0 0 0;");
            Check.due("the least LUCK", 0, x.town(0, 0));
            Check.due("the most LUCK", 999, x.town(1, 0));
            Check.due("the least BAD", 0, x.town(1, 1));
            Check.due("the most BAD", 999, x.town(0, 1));
            fault("town 1000 0 0 0;", 2, 5);
            fault("town 0 1000 0 0;", 2, 7);
        });
        Edges.term("MAKES (0 to 20)", () -> {
            LuckCrates x = Texts.told("town 0 0 0 0;town 0 0 20 0;");
            Check.due("the least", 0, x.town(0, 2));
            Check.due("the most", 20, x.town(1, 2));
            fault("town 0 0 21 0;", 2, 9);
        });
        Edges.term("STAKE (0 to 20)", () -> {
            LuckCrates x = Texts.told("town 0 0 0 0;town 0 0 0 20;");
            Check.due("the least", 0, x.town(0, 3));
            Check.due("the most", 20, x.town(1, 3));
            fault("town 0 0 0 21;", 2, 11);
        });
    }

    private static void ways() {
        Edges.term("WAYS 0, 1 .. (at most 12)", () -> {
            LuckCrates x = Texts.told(ways(12) + "crate 1 2;");
            Check.due("twelve ways", 12, x.count(1));
            Check.due("the last one is 11, from 2 to 5", 5, x.send(0, 11));
            fault(ways(13), 2, 78 + 144);
        });
        Edges.term("two TOWNS, DAYS (1 to 9)", () -> {
            LuckCrates x = Texts.told(TWO + TOWN + "way 0 1 1 0;way 1 2 9 0;");
            Check.due("the least", 1, x.far(0, 1));
            Check.due("the most", 9, x.far(2, 1));
            fault(TWO + "way 0 1 0 0;", 2, 34);
            fault(TWO + "way 0 1 10 0;", 2, 34);
        });
        Edges.term("LEAK (0 to 9)", () -> {
            LuckCrates x = Texts.told(TWO + TOWN + "way 0 1 1 0;way 1 2 1 9;");
            Check.due("the least", 0, x.leak(0, 1));
            Check.due("the most", 9, x.leak(2, 1));
            fault(TWO + "way 0 1 1 10;", 2, 36);
        });
    }

    private static void crates() {
        Edges.term("CRATES 0, 1 .. (at most 10)", () -> {
            LuckCrates x = Texts.told(TOWN + "crate 1 0;".repeat(9) + "crate 7 0;");
            Check.due("ten crates", 10, x.count(2));
            Check.due("the last one is 9", 7, x.crate(9, 0));
            fault(TOWN + "crate 1 0;".repeat(11), 2, 13 + 100);
        });
        Edges.term("GRAINS (0 to 99), of LUCK or BALLAST (BAD luck), a TOWN in which it lies, closed", () -> {
            LuckCrates x = Texts.told(TWO + "crate 0 0;ballast 99 1;");
            Check.due("the least", 0, x.crate(0, 0));
            Check.due("the most", 99, x.crate(1, 0));
            Check.due("of LUCK", 0, x.crate(0, 1));
            Check.due("of BALLAST", 1, x.crate(1, 1));
            Check.due("in the first TOWN", 1, x.town(0, 6));
            Check.due("in the last TOWN", 2, x.town(1, 6));
            fault(TOWN + "crate 100 0;", 2, 19);
            fault(TOWN + "ballast 100 0;", 2, 21);
        });
        Edges.term("with a CAT or without.", () -> {
            LuckCrates x = Texts.told(TOWN + "crate 1 0;crate 1 0 cat;ballast 1 0 cat;ballast 1 0;");
            int[] due = {0, 1, 1, 0};
            for (int c = 0; c < 4; c++) {
                Check.due("CAT of " + c, due[c], x.crate(c, 2));
            }
            fault(TOWN + "crate 1 0 cat cat;", 1, 27);
        });
        Edges.term("ODDS: a rule.", () -> {
            Check.due("with one", 3, Texts.told("odds 3;" + TOWN).town(0, 5));
            Check.due("with none", 6, Texts.told(TOWN).town(0, 5));
        });
    }

    private static void tokens() {
        Edges.term("A TEXT of at most 700 bytes tells it.", () -> {
            String text = TOWN + " ".repeat(674) + TOWN;
            LuckCrates x = new LuckCrates();
            Check.due("700 bytes", 0, Texts.province(x, text));
            Check.due("all of them", 2, x.count(0));
            fault(TOWN + " ".repeat(686) + "?", 1, 699);
        });
        Edges.term("TOKENS: words (a .. z, the longest row)", () -> {
            whole("town0 0 0 0;");
            fault("towns 0 0 0 0;", 1, 0);
            fault("xown 0 0 0 0;", 1, 0);
            fault("towx 0 0 0 0;", 1, 0);
            fault("odds duck;", 3, 5);
            fault("odds mad;", 3, 5);
            fault("odds pay;", 3, 5);
            fault("odds grates;", 3, 5);
            fault("tow n 0 0 0 0;", 1, 0);
            fault("Town 0 0 0 0;", 1, 0);
            fault("`town 0 0 0 0;", 1, 0);
            fault("{town 0 0 0 0;", 1, 0);
            fault("odds a;", 3, 5);
            fault("odds z;", 3, 5);
            fault("odds luckbad;", 3, 5);
            fault("odds A;", 1, 5);
            fault("odds `;", 1, 5);
            fault("odds {;", 1, 5);
        });
        Edges.term("NUMBERS (1 to 4 digits)", () -> {
            Check.due("four digits", 5, Texts.told("town 0005 0 0 0;").town(0, 0));
            Check.due("one digit", 9, Texts.told("town 9 0 0 0;").town(0, 0));
            Check.due("0 to 9 are digits", 12, Texts.told(TOWN + "odds 9876 - 5432 - 1098 - 3334;").town(0, 5));
            fault("odds 00001;", 2, 5);
            fault("odds :;", 1, 5);
        });
    }

    private static void signsAndBlanks() {
        Edges.term("signs ; ( ) + - * / < =", () -> {
            Check.due("all of them", 1, Texts.told(TOWN + "odds ((6+4-2)*3/5<5)=1;").town(0, 5));
            for (char other : ">!&|%^,.:[]{}~'\"#$@?_\\".toCharArray()) {
                fault("odds 1 " + other + " 1;", 1, 7);
            }
            fault("odds 1 " + (char) 127 + " 1;", 1, 7);
            fault("odds 1 " + (char) 128 + " 1;", 1, 7);
            fault("odds 1 " + (char) 255 + " 1;", 1, 7);
            fault("odds 1 " + (char) (256 - 5) + " 1;", 1, 7);
        });
        Edges.term("blanks (32, 10) between them count for nothing.", () -> {
            whole("");
            whole(" \n\n ");
            whole("\n town\n0 \n 0 0\n0 ;\n ");
            whole("town 0 0 0 0;odds(1)+luck<2or 3and not 4=(5);");
            fault("town 1 0 0 0 0;", 1, 13);
            fault("od ds 1;", 1, 0);
            for (int other : new int[] {0, 9, 11, 12, 13, 31, 33, 160, 138}) {
                fault("town" + (char) other + "0 0 0 0;", 1, 4);
                fault(TOWN + (char) other, 1, 13);
            }
        });
        Edges.onlyTold("In quotes is what stands there, [ ] perhaps, * any number of times, | one of some.");
    }

    private static void lines() {
        Edges.term("PROVINCE: LINE*.", () -> {
            whole("");
            whole(TOWN);
            whole("town 0 0 0 0;odds 1;crate 0 0;town 0 0 0 0;way 1 0 1 1;ballast 0 1;");
            fault(";", 1, 0);
            fault(TOWN + ";", 1, 13);
            fault("0;", 1, 0);
            fault("luck;", 1, 0);
            fault("cat;", 1, 0);
        });
        Edges.term("LINE: ('town' LUCK BAD MAKES STAKE", () -> {
            fault("town;", 1, 4);
            fault("town 1;", 1, 6);
            fault("town 1 2;", 1, 8);
            fault("town 1 2 3;", 1, 10);
            fault("town 1 2 3 4 5;", 1, 13);
            fault("town 1 2 3 4 cat;", 1, 13);
        });
        Edges.term("'way' TOWN TOWN DAYS LEAK", () -> {
            fault(TWO + "way;", 1, 29);
            fault(TWO + "way 0;", 1, 31);
            fault(TWO + "way 0 1;", 1, 33);
            fault(TWO + "way 0 1 1;", 1, 35);
            fault(TWO + "way 0 1 1 1 1;", 1, 38);
        });
        Edges.term("('crate' | 'ballast') GRAINS TOWN ['cat']", () -> {
            fault(TOWN + "crate;", 1, 18);
            fault(TOWN + "crate 1;", 1, 20);
            fault(TOWN + "ballast 1 cat;", 1, 23);
            fault(TOWN + "crate 1 0 dog;", 1, 23);
            fault(TOWN + "crate 1 0 1;", 1, 23);
            fault(TOWN + "ballast cat 1 0;", 1, 21);
        });
        Edges.term("'odds' EXPR) ';', all in capitals but EXPR being NUMBERS.", () -> {
            fault("odds;", 1, 4);
            fault("odds 1", 1, 6);
            fault("odds 1 town 0 0 0 0;", 1, 7);
            fault("town 0 0 0 0 town 0 0 0 0;", 1, 13);
            fault("town luck 0 0 0;", 1, 5);
            fault("town 0 (0) 0 0;", 1, 7);
            fault("town 0 0 -1 0;", 1, 9);
            fault(TWO + "way 0 1 day 1;", 1, 34);
            fault(TWO + "crate 1 crates;", 1, 34);
        });
    }

    private static void firstAlongTheText() {
        Edges.term("FAULTS, the first along the text", () -> {
            fault("town 1000 x 21 0", 2, 5);
            fault("x town 1000 0 0 0;", 1, 0);
            fault("way 0 0 0 0;town", 3, 4);
            fault("odds (won + ?;", 3, 6);
            fault("odds 1;odds ?", 5, 7);
            fault(TWO + "way 0 0 10 10;", 4, 32);
            fault("town 0 0 0 0 odds 12345;", 1, 13);
        });
        Edges.term("at a TOKEN's first byte", () -> {
            fault("town     1000 0 0 0;", 2, 9);
            fault("odds \n  lucky;", 3, 8);
            fault("odds 123456789;", 2, 5);
            fault("odds 1;\nodds 1;", 5, 8);
        });
        Edges.term("of one TOKEN the least", () -> {
            fault("odds 1 12345;", 1, 7);
            fault("odds 1 won;", 1, 7);
            fault("town won 0 0 0;", 1, 5);
            fault("odds ((((((won;", 2, 11);
            fault("odds ((((((not not;", 2, 11);
            fault("way 12345 0 1 1;", 2, 4);
            fault(TWO + "way 0 00000 1 1;", 2, 32);
            fault("town 0 0 0 0 odds 1;", 1, 13);
            fault("odds 1 odds 1;", 1, 7);
            fault("odds 1;odds;", 5, 7);
        });
    }

    private static void misplaced() {
        Edges.term("1 a TOKEN that can't stand there, or is none", () -> {
            fault("12345;", 1, 0);
            fault("odds );", 1, 5);
            fault("odds ();", 1, 6);
            fault("odds 1);", 1, 6);
            fault("odds (1;", 1, 7);
            fault("odds 1 < 2 = 3;", 1, 11);
            fault("odds 1 not 2;", 1, 7);
            fault("odds -1;", 1, 5);
            fault("odds 1 + * 2;", 1, 9);
            fault("odds 1 (2);", 1, 7);
            fault("odds ?;", 1, 5);
            fault("odds 1?;", 1, 6);
            fault("town 0? 0 0 0;", 1, 6);
        });
        Edges.term("(the text's length where it ends too soon)", () -> {
            fault("town", 1, 4);
            fault("town 0 0 0 0", 1, 12);
            fault("town 0 0 0 0 \n ", 1, 15);
            fault("odds", 1, 4);
            fault("odds (1", 1, 7);
            fault("odds 1 or ", 1, 10);
            fault("odds not", 1, 8);
            fault("odds ((((((", 1, 11);
            fault(TWO + "crate 1 0 cat", 1, 39);
            LuckCrates x = new LuckCrates();
            Texts.feed(x, "town 12 34 5 6;");
            Check.due("the first bytes of more", 1, x.province(14));
            Check.due("it ends where they do", 14, x.fault());
            Texts.feed(x, "town 0 0 0 12;");
            Check.due("within a number", 1, x.province(12));
            Check.due("of which the first digit alone is told", 12, x.fault());
            Texts.feed(x, "odds lucky;");
            Check.due("within a word", 1, x.province(9));
            Check.due("of which the first letters alone are told", 9, x.fault());
            Texts.feed(x, "odds luck;");
            Check.due("within a word that is told by none", 3, x.province(8));
            Check.due("which stands there", 5, x.fault());
        });
    }

    private static void tooMuchOfANumber() {
        Edges.term("2 one that can, but is too much: a NUMBER of 5 digits or more", () -> {
            fault("town 00000 0 0 0;", 2, 5);
            fault("town 0 00000 0 0;", 2, 7);
            fault("town 0 0 00000 0;", 2, 9);
            fault("town 0 0 0 00000;", 2, 11);
            fault(TWO + "way 00000 1 1 1;", 2, 30);
            fault(TWO + "way 0 00001 1 1;", 2, 32);
            fault(TWO + "way 0 1 00001 1;", 2, 34);
            fault(TWO + "way 0 1 1 00001;", 2, 36);
            fault(TWO + "crate 00001 0;", 2, 32);
            fault(TWO + "ballast 1 00000;", 2, 36);
            fault("odds 10000;", 2, 5);
            fault("odds luck * 00007;", 2, 12);
            // As an int these would wrap round to 0, 1 and 9.
            fault("town 4294967296 0 0 0;", 2, 5);
            fault("odds 4294967297;", 2, 5);
            fault(TWO + "way 0 18446744073709551617 1 1;", 2, 32);
            fault("odds " + "9".repeat(690) + ";", 2, 5);
        });
        Edges.term("or (not in an EXPR) not as told", () -> {
            whole("odds 9999 + 1000 + 100 + 21;");
            fault("town 9999 0 0 0;", 2, 5);
            fault("town 0 0 0100 0;", 2, 9);
            fault(TWO + "way 0 1 0000 1;", 2, 34);
            fault(TWO + "way 0 1 1 0010;", 2, 36);
            fault(TWO + "crate 0100 0;", 2, 32);
        });
    }

    private static void tooMany() {
        Edges.term("the first TOKEN of the 9th TOWN", () -> {
            whole(TOWN.repeat(8));
            fault(TOWN.repeat(8) + "town", 2, 104);
            fault(TOWN.repeat(8) + " town ?", 2, 105);
            fault(TOWN.repeat(8) + "town 1000 0 0 0;", 2, 104);
        });
        Edges.term("the 13th WAY", () -> {
            whole(ways(12));
            fault(ways(12) + "way", 2, 78 + 144);
            fault(ways(12) + "way 0 0 1 1;", 2, 78 + 144);
        });
        Edges.term("the 11th CRATE (of both sorts)", () -> {
            String ten = TOWN + "crate 1 0;ballast 1 0;".repeat(5);
            whole(ten);
            fault(ten + "crate", 2, 13 + 110);
            fault(ten + "ballast", 2, 13 + 110);
            fault(ten + "ballast 100 9;", 2, 13 + 110);
            fault(TOWN + "ballast 1 0;".repeat(11), 2, 13 + 120);
        });
    }

    private static void tooDeep() {
        Edges.term("of an EXPR within 6 others (a NUMBER, any word, a parenthesis)", () -> {
            whole("odds (((((1)))));");
            whole("odds (((((1))))) + (((((1)))));");
            whole("odds (1) + (1) + (1) + (1) + (1) + (1) + (1);");
            String deepest = "0 or 1 and 0 < 0 + 2 * (".repeat(4) + "3" + ")".repeat(4);
            LuckCrates x = Texts.told(TOWN + "odds 2 + 5 * (" + deepest + ");");
            Check.due("all that may wait in one another", 7, x.town(0, 5));
            fault("odds ((((((1))))));", 2, 11);
            fault("odds ((((((luck", 2, 11);
            fault("odds ((((((not", 2, 11);
            fault("odds ((((((town", 2, 11);
            fault("odds (((((((", 2, 11);
            fault("odds (((((( 9", 2, 12);
            fault("odds (1+(1+(1+(1+(1+(1", 2, 21);
            fault("odds (((((1) + (1", 1, 17);
            fault("odds (((((1) + ((1", 2, 17);
            fault("odds (((((()", 1, 11);
            fault("odds ((((((+", 1, 11);
            fault("odds ((((((;", 1, 11);
            fault("odds ((((((?", 1, 11);
            fault("odds " + "(".repeat(690), 2, 11);
        });
        Edges.term("the seventh 'not' side by side", () -> {
            String six = "not not not not not not ";
            whole("odds " + six + "1;");
            whole("odds " + six + "(" + six + "1);");
            whole("odds " + six + "1 and " + six + "1 or " + six + "1;");
            fault("odds " + six + "not 1;", 2, 29);
            fault("odds " + six + "not", 2, 29);
            fault("odds 1 or " + six + "\nnot 1;", 2, 35);
            fault("odds (" + six + "not not 1);", 2, 30);
            fault("odds " + six + "nots;", 3, 29);
        });
    }

    private static void unknownJoinedSecond() {
        Edges.term("3 any word where a PART must stand that is no VALUE", () -> {
            for (String word : new String[] {"won", "luckz", "luc", "or", "and", "town", "cat", "odds", "x"}) {
                fault("odds " + word + ";", 3, 5);
                fault("odds 1 + " + word + ";", 3, 9);
                fault("odds 1 or " + word + ";", 3, 10);
                fault("odds 1 and " + word + ";", 3, 11);
                fault("odds 1 < " + word + ";", 3, 9);
                fault("odds 1 * " + word + ";", 3, 9);
                fault("odds not " + word + ";", 3, 9);
                fault("odds (" + word + ";", 3, 6);
            }
            fault("odds 1 + not 1;", 3, 9);
            fault("odds 1 < not 1;", 3, 9);
            fault("odds 1 / not 1;", 3, 9);
        });
        Edges.term("a TOWN that isn't told ahead", () -> {
            whole(TWO + "way 1 0 1 1;crate 1 1;");
            fault("way 0 1 1 1;", 3, 4);
            fault("crate 1 0;", 3, 8);
            fault(TWO + "way 2 0 1 1;", 3, 30);
            fault(TWO + "way 0 2 1 1;", 3, 32);
            fault(TWO + "way 0 9999 1 1;", 3, 32);
            fault(TWO + "ballast 1 2;", 3, 36);
            fault(TOWN + "crate 1 1;" + TOWN, 3, 21);
            fault(TOWN.repeat(8) + "crate 1 8;", 3, 112);
        });
        Edges.term("4 the second TOWN of a WAY that is the first one, or has one with it", () -> {
            fault(TWO + "way 0 0 1 1;", 4, 32);
            fault(TWO + "way 1 0001 1 1;", 4, 32);
            fault(TWO + "way 0 1 1 1;way 0 1 2 2;", 4, 44);
            fault(TWO + "way 0 1 1 1;way 1 0 2 2;", 4, 44);
            whole(TWO + TOWN + "way 0 1 1 1;way 1 2 1 1;way 2 0 1 1;");
        });
        Edges.term("5 a second 'odds'.", () -> {
            whole("odds 1;" + TWO);
            fault("odds 1;odds 1;", 5, 7);
            fault("odds 1;" + TWO + "odds", 5, 33);
        });
    }

    private static void newObject() {
        Edges.promise(1, "No TOWNS.", () -> {
            LuckCrates x = new LuckCrates();
            for (int what = 0; what <= 15; what++) {
                Check.due("count(" + what + ")", 0, x.count(what));
            }
            Check.due("fault()", NONE, x.fault());
            Check.due("undo()", NONE, x.undo());
            Check.due("restore()", false, x.restore());
            Check.due("luckiest", NONE, x.luckiest(0));
            Check.due("hub", NONE, x.hub());
            Check.due("missed", NONE, x.missed());
            Check.due("spoilt", 0, x.spoilt());
            Check.due("pooled", 0, x.pooled(60));
            Check.due("the day of all", 1, x.day(60, 0));
            Check.due("by", 0, x.day(60, 1));
            Check.due("openings", 0, x.opened(0));
            Check.due("the first opening", NONE, x.opened(1));
            Check.due("all is so without", 1, x.opened(2));
            Check.due("the next day", NONE, x.next(0));
            Check.due("how many on it", 0, x.next(1));
            Check.noSuch("no TOWN", () -> x.town(0, 0));
            Check.noSuch("no CRATE", () -> x.crate(0, 0));
            Check.noSuch("no WAY", () -> x.bridge(0));
            Check.due("but days", 30, x.days(30));
        });
        Edges.term("The constants: `NONE = -1`: There is none.",
                () -> Check.due("NONE", -1, LuckCrates.NONE));
    }


    private static void tape() {
        Edges.promise(2, "Twenty bytes come behind the tape, of each number the highest first: how many it has", () -> {
            LuckCrates x = new LuckCrates();
            // "town 12 34 5 6;town " and "987 654 3 2;        "
            Check.due("twenty", 20, x.feed(0x746f776e, 0x20313220, 0x33342035, 0x20363b74, 0x6f776e20));
            Check.due("twenty behind them", 40, x.feed(0x39383720, 0x36353420, 0x3320323b, 0x20202020, 0x20202020));
            Check.due("all forty", 0, x.province(40));
            int[][] due = {{12, 34, 5, 6}, {987, 654, 3, 2}};
            for (int t = 0; t < 2; t++) {
                for (int what = 0; what < 4; what++) {
                    Check.due("town " + t + ", " + what, due[t][what], x.town(t, what));
                }
            }
            Check.due("bytes above 127", 20, x.feed(0x20202020, 0x2020ff20, -1, -1, Integer.MIN_VALUE));
            Check.due("such a byte", 1, x.province(20));
            Check.due("stands where it stood", 6, x.fault());
        });
        Edges.promise(2, "NONE, and none come, if it would have more than 700.", () -> {
            LuckCrates x = new LuckCrates();
            for (int i = 1; i <= 35; i++) {
                Check.due("the tape has", 20 * i, x.feed(0x20202020, 0x20202020, 0x20202020, 0x20202020, 0x2020200a));
            }
            Check.due("more than 700", NONE, x.feed(0, 0, 0, 0, 0));
            Check.due("once more", NONE, x.feed(-1, -1, -1, -1, -1));
            Check.due("none came", 700, x.count(12));
            Check.due("none came in place of others", 0, x.province(700));
            Check.due("it is no call that STATUS counts", 0, x.count(13) + x.count(14) + x.count(15));
            Check.due("there is room again", 20, x.feed(0, 0, 0, 0, 0));
        });
    }

    private static void province() {
        Edges.promise(3, "The tape's first n bytes (it is empty then) are a PROVINCE, all anew: 0", () -> {
            LuckCrates x = new LuckCrates();
            Check.due("none of none", 0, x.province(0));
            Texts.feed(x, "town 7 0 0 0;odds ??");
            Check.due("just the first ones", 0, x.province(13));
            Check.due("one town", 7, x.town(0, 0));
            Check.due("the tape is empty", 0, x.count(12));
            Texts.feed(x, "town 8 0 0 0;       ");
            Check.due("all of them", 0, x.province(20));
            Check.due("another town", 8, x.town(0, 0));
            Check.due("it alone", 1, x.count(0));
            Texts.feed(x, "?");
            Check.due("none of twenty", 0, x.province(0));
            Check.due("no towns", 0, x.count(0));
            Check.due("the tape is empty then too", 0, x.count(12));
        });
        Edges.promise(3, "all anew", () -> {
            LuckCrates x = Texts.told(TWO + "way 0 1 1 1;crate 9 1 cat;ballast 9 0;odds 12;");
            x.days(30);
            x.send(0, 0);
            Check.due("anew", 0, Texts.province(x, "town 1 0 0 0;town 2 0 0 0;crate 3 0;"));
            int[] due = {2, 0, 1, 0, 3, 0, 0, 1, 0, 0, 0, 0, 0};
            for (int what = 0; what < due.length; what++) {
                Check.due("count(" + what + ")", due[what], x.count(what));
            }
            Check.due("no WAY", NONE, x.far(0, 1));
            Check.due("no rule", 6, x.town(0, 5));
            Check.due("no BALLAST", 0, x.crate(0, 1));
            Check.due("no CAT", 0, x.crate(0, 2));
        });
        Edges.promise(3, "all anew", EdgesOfText::anewAgainAndAgain);
        Edges.promise(3, "ACTS, what is SEEN, the image are gone (STATUS stays).", () -> {
            LuckCrates x = Texts.told(TOWN);
            x.days(1);
            x.see(0, 0, 0);
            x.image();
            x.days(31);
            x.see(0, 31, 0);
            Texts.province(x, "?");
            Texts.province(x, TOWN);
            Check.due("no ACTS", 0, x.count(10));
            Check.due("none to undo", NONE, x.undo());
            Check.due("nothing SEEN", 0, x.count(11));
            Check.due("no image", false, x.restore());
            for (int status = 13; status <= 15; status++) {
                Check.due("STATUS " + status, 1, x.count(status));
            }
        });
    }

    /** What was told twice ahead, well or not, leaves nothing in what is told now. */
    private static void anewAgainAndAgain() {
        String much = TWO + TWO + "way 0 1 1 1;way 2 3 1 1;crate 9 1 cat;ballast 9 0 cat;ballast 9 3;odds 12;";
        LuckCrates x = new LuckCrates();
        for (int i = 0; i < 6; i++) {
            Check.due("much", 0, Texts.province(x, much));
            x.days(5);
            Check.due("a FAULT", 1, Texts.province(x, much + "?"));
            Check.due("little", 0, Texts.province(x, i % 2 == 0 ? "town 1 0 0 0;crate 3 0;" : TWO + "crate 3 0;"));
            Check.due("towns", 1 + i % 2, x.count(0));
            Check.due("ways", 0, x.count(1));
            Check.due("crates", 1, x.count(2));
            Check.due("the DAY", 0, x.count(3));
            Check.due("its GRAINS", 3, x.crate(0, 0));
            Check.due("of LUCK", 0, x.crate(0, 1));
            Check.due("no CAT", 0, x.crate(0, 2));
            Check.due("no rule", 6, x.town(0, 5));
        }
        LuckCrates rules = new LuckCrates();
        for (int i = 0; i < 90; i++) {
            Texts.province(rules, "odds 1 + 1 + 1 + 1;");
        }
        Check.due("a rule", 0, Texts.province(rules, "odds 1 + 8;" + TOWN));
        Check.due("it alone", 9, rules.town(0, 5));
    }

    private static void provinceRefused() {
        Edges.promise(3, "or the FAULT (all stays).", () -> {
            LuckCrates x = Texts.told(TWO + "way 0 1 2 1;crate 9 1 cat;ballast 9 0;odds 5;");
            x.days(3);
            x.send(0, 0);
            x.see(1, 2, 3);
            x.image();
            int[] was = Edges.state(x);
            Check.due("5", 5, Texts.province(x, "town 1 1 1 1;crate 5 0;odds 1;odds 2;"));
            Edges.same("behind a FAULT", was, x);
            Check.due("one TEXT was refused", 1, x.count(13));
            Check.due("the way stays", 2, x.far(0, 1));
            Check.due("the image stays", true, x.restore());
            Check.due("the ACTS stay", 1, x.undo());
        });
        Edges.promise(3, "IllegalArgumentException: the tape has not so many", () -> {
            LuckCrates x = Texts.told(TOWN);
            Check.illegal("one of an empty tape", () -> x.province(1));
            Texts.feed(x, TOWN);
            int[] was = Edges.state(x);
            Check.illegal("21 of 20", () -> x.province(21));
            Check.illegal("701", () -> x.province(701));
            Check.illegal("the most", () -> x.province(Integer.MAX_VALUE));
            Edges.same("behind them", was, x);
            Check.due("20 of 20", 0, x.province(20));
        });
        Edges.promise(3, "n below 0 (nothing changes).", () -> {
            LuckCrates x = Texts.told(TOWN);
            x.days(1);
            Texts.province(x, "odds ?");
            Texts.feed(x, TOWN);
            int[] was = Edges.state(x);
            Check.illegal("-1", () -> x.province(-1));
            Check.illegal("the least", () -> x.province(Integer.MIN_VALUE));
            Edges.same("behind them", was, x);
            Check.due("the tape stays", 20, x.count(12));
            Check.due("the FAULT's place stays", 5, x.fault());
            Check.due("STATUS stays", 1, x.count(13));
        });
    }

    private static void fault() {
        Edges.promise(4, "The place of the latest province()'s FAULT", () -> {
            LuckCrates x = new LuckCrates();
            Texts.province(x, "?");
            Check.due("the least place", 0, x.fault());
            Texts.province(x, "odds won;");
            Check.due("the latest one", 5, x.fault());
            Texts.province(x, " ".repeat(700 - 4) + "odds");
            Check.due("the last place", 700, x.fault());
            x.days(1);
            x.feed(0, 0, 0, 0, 0);
            Check.due("whatever comes behind it", 700, x.fault());
        });
        Edges.promise(4, "NONE without.", () -> {
            LuckCrates x = new LuckCrates();
            Check.due("ahead of all", NONE, x.fault());
            Texts.province(x, "?");
            Texts.province(x, TOWN);
            Check.due("behind one without", NONE, x.fault());
            Texts.province(x, "?");
            x.province(0);
            Check.due("behind none", NONE, x.fault());
        });
    }
}
