/** Bounds of the lane, of texts and their FAULTS, of PATTERNS and BALLS: a test for each sentence that names one. */
public final class LaneBoundsTest {
    private static final String STRIP = "strip 0 0;";

    /** The text is read as so many ITEMS: THE TEXT is empty then, and the PATTERN is told. */
    private static void reads(String text, int items) {
        OilLane x = Due.type(new OilLane(), text);
        Due.is("pattern of '" + text + "'", x.pattern(2), items);
        Due.is("bytes behind '" + text + "'", x.count(2), 0);
        Due.is("told behind '" + text + "'", x.count(3), 4);
    }

    /** The text has its FAULT there: THE TEXT stays as long as it was, and nothing is told. */
    private static void fault(String text, int place) {
        OilLane x = Due.type(new OilLane(), text);
        Due.is("pattern of '" + text + "'", x.pattern(2), -10 - place);
        Due.is("bytes behind '" + text + "'", x.count(2), text.length());
        Due.is("told behind '" + text + "'", x.count(3), 0);
    }

    // ---- the lane

    private static void boards() {
        Due.sentence("1: THE LANE has BOARDS 0 .. 38");
        OilLane x = Due.laid("lay 0 0 0 0 3;lay 38 38 0 0 5;");
        Due.is("drops(-1, 0)", x.drops(-1, 0), Due.BAD);
        Due.is("drops(0, 0)", x.drops(0, 0), 3);
        Due.is("drops(38, 0)", x.drops(38, 0), 5);
        Due.is("drops(39, 0)", x.drops(39, 0), Due.BAD);
        Due.is("drops(LOWEST, 0)", x.drops(Due.LOWEST, 0), Due.BAD);
        Due.is("drops(HIGHEST, 0)", x.drops(Due.HIGHEST, 0), Due.BAD);
    }

    private static void stretches() {
        Due.sentence("1: STRETCHES 0 .. 19");
        OilLane x = Due.laid("lay 7 7 0 0 3;lay 7 7 19 19 5;");
        Due.is("drops(7, -1)", x.drops(7, -1), Due.BAD);
        Due.is("drops(7, 0)", x.drops(7, 0), 3);
        Due.is("drops(7, 19)", x.drops(7, 19), 5);
        Due.is("drops(7, 20)", x.drops(7, 20), Due.BAD);
        Due.is("drops(7, LOWEST)", x.drops(7, Due.LOWEST), Due.BAD);
        Due.is("drops(7, HIGHEST)", x.drops(7, Due.HIGHEST), Due.BAD);
    }

    private static void oilOfStretches() {
        Due.sentence("7: DROPS of all BOARDS of a STRETCH (-1: of all)");
        OilLane x = Due.laid("lay 0 38 0 0 1;lay 0 0 7 7 2;lay 38 38 19 19 4;");
        Due.is("oil(-2)", x.oil(-2), Due.BAD);
        Due.is("oil(-1)", x.oil(-1), 39 + 2 + 4);
        Due.is("oil(0)", x.oil(0), 39);
        Due.is("oil(1)", x.oil(1), 0);
        Due.is("oil(7)", x.oil(7), 2);
        Due.is("oil(18)", x.oil(18), 0);
        Due.is("oil(19)", x.oil(19), 4);
        Due.is("oil(20)", x.oil(20), Due.BAD);
        Due.is("oil(LOWEST)", x.oil(Due.LOWEST), Due.BAD);
        Due.is("oil(HIGHEST)", x.oil(Due.HIGHEST), Due.BAD);
    }

    private static void cells() {
        Due.sentence("1: each cell of it has 0 .. 99 DROPS; more than 99 are 99");
        String ninety = "lay 0 0 0 0 30;".repeat(3);
        Due.is("98", Due.laid(ninety + "lay 0 0 0 0 8;").drops(0, 0), 98);
        Due.is("99", Due.laid(ninety + "lay 0 0 0 0 9;").drops(0, 0), 99);
        Due.is("100 are 99", Due.laid(ninety + "lay 0 0 0 0 10;").drops(0, 0), 99);
        Due.is("98 and 30 are 99", Due.laid(ninety + "lay 0 0 0 0 8;lay 0 0 0 0 30;").drops(0, 0), 99);
        Due.is("99 and 1 are 99", Due.laid(ninety + "lay 0 0 0 0 9;lay 0 0 0 0 1;").drops(0, 0), 99);
        Due.is("twelve times 30", Due.laid("lay 0 38 0 19 30;".repeat(12)).oil(-1), 780 * 99);
        Due.is("all of them, as lay() tells", Due.tell(new OilLane(), 1, "lay 0 38 0 19 30;".repeat(12)).lay(1), 780 * 99);
        Due.is("the cell beside it", Due.laid("lay 0 0 0 0 30;".repeat(5)).oil(-1), 99);
    }

    private static void neverBelowNone() {
        Due.sentence("1: each cell has 0 .. 99 DROPS: a ball takes the last one, and none where there is none");
        OilLane x = Due.laid("lay 19 19 0 0 1;");
        for (int k = 0; k < 20; k++) {
            Due.is("the one DROP before shot " + k, x.drops(19, k), 1);
            Due.is("all of them", x.oil(-1), 1);
            x.shot(19, 0, 0, 0);
            Due.is("taken by shot " + k, x.drops(19, k), 0);
        }
        Due.is("the last STRETCH's went with the ball", x.oil(-1), 0);
        Due.is("its FILM", x.came(3), 1);
        x.shot(19, 0, 0, 0);
        Due.is("nothing left to take", x.oil(-1), 0);
        Due.is("FILM of nothing", x.came(3), 0);
    }

    private static void newObject() {
        Due.sentence("Promise 1: dry boards, no PATTERNS, no THROWERS");
        for (int half = 0; half < 2; half++) {
            OilLane x = new OilLane();
            for (int stretch = 10 * half; stretch < 10 * half + 10; stretch++) {
                for (int board = 0; board < 39; board++) {
                    Due.is("drops(" + board + ", " + stretch + ")", x.drops(board, stretch), 0);
                }
            }
        }
        OilLane x = new OilLane();
        Due.is("oil(-1)", x.oil(-1), 0);
        for (int k = 0; k < 4; k++) {
            Due.is("count(" + k + ")", x.count(k), 0);
            Due.is("lay(" + k + ")", x.lay(k), Due.STATE);
            Due.is("stands(" + k + ", 0)", x.stands(k, 0), Due.NO);
        }
        Due.is("fits()", x.fits(), 0);
        Due.is("game(0)", x.game(0), 0);
        Due.is("came(0)", x.came(0), Due.NO);
        Due.is("worth(0)", x.worth(0), Due.NO);
        Due.is("back(0)", x.back(0), Due.STATE);
        Due.is("back(1)", x.back(1), Due.STATE);
        Due.is("trace()", x.trace(), 0);
    }

    private static void objectsAreApart() {
        Due.sentence("Promise 1: a new object is as told, whatever was done to another");
        OilLane busy = Due.slick();
        busy.shot(19, 0, 0, 0);
        busy.worth(4);
        busy.ball(0, 0, 9);
        busy.scatter(0, 2, 0, 6);
        busy.thrower(1, 1, 1, 1, 1);
        busy.clue(1, 1, 1, 1, 1);
        busy.keep(0);
        busy.roll(7);
        Due.type(busy, "lay");
        newObject();
        OilLane x = new OilLane();
        Due.is("skin of ball 0", x.ball(0, 0, 2), 2);
        Due.is("scatter(0, 0, 0, 0)", x.scatter(0, 0, 0, 0), 0);
        Due.is("scatter(0, 2, 2, 0)", x.scatter(0, 2, 2, 0), 6);
    }

    // ---- THE TEXT

    private static void howManyBytes() {
        Due.sentence("Promise 2: the lowest n (1 .. 8) bytes of v");
        OilLane x = new OilLane();
        Due.is("type(97, 0)", x.type(97, 0), Due.BAD);
        Due.is("type(97, -1)", x.type(97, -1), Due.BAD);
        Due.is("type(97, 9)", x.type(97, 9), Due.BAD);
        Due.is("type(97, LOWEST)", x.type(97, Due.LOWEST), Due.BAD);
        Due.is("type(97, HIGHEST)", x.type(97, Due.HIGHEST), Due.BAD);
        Due.is("nothing came", x.count(2), 0);
        Due.is("type(97, 1)", x.type(97, 1), 1);
        Due.is("type(97, 8)", x.type(97, 8), 9);
    }

    private static void whichBytes() {
        Due.sentence("Promise 2: the lowest bytes of v, the highest of them first");
        OilLane x = new OilLane();
        Due.is("'$strip' without $", x.type(0x24_73_74_72_69_70L, 5), 5);
        Due.is("' 0 0;' with 1s ahead", x.type(0xFFFFFF_20_30_20_30_3BL, 5), 10);
        Due.is("pattern(0)", x.pattern(0), 1);
        Due.is("'lay 0 3 ', all eight", x.type(0x6C_61_79_20_30_20_33_20L, 8), 8);
        Due.is("'5 5 2;'", x.type(0x35_20_35_20_32_3BL, 6), 14);
        Due.is("pattern(0)", x.pattern(0), 1);
        Due.is("lay(0): BOARDS 0 .. 3, 2 each", x.lay(0), 8);
        Due.is("drops(3, 5)", x.drops(3, 5), 2);
        Due.is("all bytes of -1", x.type(-1L, 8), 8);
        Due.is("byte 255 begins no TOKEN", x.pattern(0), -10);
        Due.is("clear()", x.clear(), 8);
        Due.is("all bytes of Long.MIN_VALUE", x.type(Long.MIN_VALUE, 8), 8);
        Due.is("byte 128 begins no TOKEN", x.pattern(0), -10);
    }

    private static void threeHundredBytes() {
        Due.sentence("1: PATTERNS are told by texts (300 bytes at most)");
        for (int n = 1; n <= 8; n++) {
            OilLane x = Due.type(new OilLane(), " ".repeat(300 - n));
            Due.is("bytes", x.count(2), 300 - n);
            if (n < 8) {
                Due.is("one too many at " + (300 - n), x.type(97, n + 1), Due.FULL);
                Due.is("none of them came", x.count(2), 300 - n);
            }
            Due.is("just full at " + (300 - n), x.type(0x20_20_20_20_20_20_20_20L, n), 300);
            Due.is("one more", x.type(97, 1), Due.FULL);
            Due.is("still", x.count(2), 300);
            Due.is("its blanks are all there, and no more", x.pattern(0), 0);
        }
        String full = " ".repeat(285) + "lay 0 0 0 0 30;";
        reads(full, 1);
        fault(" ".repeat(297) + "lay", 300);
        fault(" ".repeat(299) + "$", 299);
        OilLane x = Due.type(new OilLane(), full);
        Due.is("clear() of 300", x.clear(), 300);
        Due.is("and again from 0", x.type(97, 1), 1);
    }

    private static void badAheadOfFull() {
        Due.sentence("Refused, the first of these: BAD ahead of FULL (type)");
        OilLane x = Due.type(new OilLane(), " ".repeat(300));
        Due.is("type(97, 0)", x.type(97, 0), Due.BAD);
        Due.is("type(97, 9)", x.type(97, 9), Due.BAD);
        Due.is("type(97, 1)", x.type(97, 1), Due.FULL);
        Due.is("type(97, 8)", x.type(97, 8), Due.FULL);
    }

    private static void clear() {
        Due.sentence("Promise 3: THE TEXT is empty: how many bytes it had");
        OilLane x = new OilLane();
        Due.is("clear() of none", x.clear(), 0);
        x.type(97, 1);
        Due.is("clear() of one", x.clear(), 1);
        Due.is("clear() again", x.clear(), 0);
        Due.is("count(2)", x.count(2), 0);
        Due.type(x, "$").clear();
        Due.type(x, STRIP);
        Due.is("what was cleared is not read", x.pattern(0), 1);
    }

    // ---- how a text is read

    private static void noText() {
        Due.sentence("Promise 4: THE TEXT becomes a PATTERN: how many ITEMS (none, if it is empty)");
        reads("", 0);
        reads(" ", 0);
        reads(" ".repeat(300), 0);
        OilLane x = Due.slick();
        Due.is("told anew by an empty text", x.pattern(0), 0);
        Due.is("it lays nothing", x.lay(0), 0);
    }

    private static void blanks() {
        Due.sentence("1: read byte by byte, blanks (32) between TOKENS");
        reads("lay 0 38 0 19 30;", 1);
        reads("   lay   0   38  0    19  30   ;   ", 1);
        reads("strip 0 0;strip 0 0;", 2);
        reads("strip 0 0 ; strip 0 0 ; ", 2);
        for (int b : new int[] {0, 9, 10, 13, 31, 33, 95, 127, 128, 160, 255}) {
            fault("strip" + (char) b + "0 0;", 5);
            fault("strip 0 0;" + (char) b, 10);
            fault((char) b + STRIP, 0);
        }
        fault("la y 0 0 0 0 1;", 0);
        fault("strip 1 9 0;", 10);
    }

    private static void itemsEnd() {
        Due.sentence("1: ITEMS, each ended by ;");
        fault("strip 0 0", 9);
        fault("strip 0 0 strip 0 0;", 10);
        fault("strip 0 0 0;", 10);
        fault("strip 0 0;;", 10);
        fault("lay 0 0 0 0 1", 13);
        fault("lay 0 0 0 0 1 1;", 14);
        fault("lay 0 0 0 0 1 lay 0 0 0 0 1;", 14);
        fault(";", 0);
        fault(" ;", 1);
        fault("; strip 0 0;", 0);
    }

    private static void layBoards() {
        Due.sentence("1: lay A B: A, B 0 .. 38");
        reads("lay 0 0 0 0 1;", 1);
        reads("lay 0 38 0 0 1;", 1);
        reads("lay 38 38 0 0 1;", 1);
        fault("lay 39 39 0 0 1;", 4);
        fault("lay 39 38 0 0 1;", 4);
        fault("lay 99 99 0 0 1;", 4);
        fault("lay 0 39 0 0 1;", 6);
        fault("lay 38 39 0 0 1;", 7);
        fault("lay 0 99 0 0 1;", 6);
        fault("lay -1 0 0 0 1;", 4);
    }

    private static void layBoardsInOrder() {
        Due.sentence("1: lay A B: B no less than A");
        reads("lay 9 9 0 0 1;", 1);
        reads("lay 9 10 0 0 1;", 1);
        reads("lay 37 38 0 0 1;", 1);
        fault("lay 9 8 0 0 1;", 6);
        fault("lay 10 9 0 0 1;", 7);
        fault("lay 1 0 0 0 1;", 6);
        fault("lay 38 37 0 0 1;", 7);
    }

    private static void layStretches() {
        Due.sentence("1: lay .. S T: S, T 0 .. 19");
        reads("lay 0 0 0 19 1;", 1);
        reads("lay 0 0 19 19 1;", 1);
        fault("lay 0 0 20 20 1;", 8);
        fault("lay 0 0 20 19 1;", 8);
        fault("lay 0 0 0 20 1;", 10);
        fault("lay 0 0 19 20 1;", 11);
        fault("lay 0 0 0 38 1;", 10);
        fault("lay 0 0 99 99 1;", 8);
    }

    private static void layStretchesInOrder() {
        Due.sentence("1: lay .. S T: T no less than S");
        reads("lay 0 0 9 9 1;", 1);
        reads("lay 0 0 9 10 1;", 1);
        reads("lay 20 30 1 2 1;", 1);
        fault("lay 0 0 9 8 1;", 10);
        fault("lay 0 0 10 9 1;", 11);
        fault("lay 0 0 1 0 1;", 10);
    }

    private static void layDrops() {
        Due.sentence("1: lay .. N: N 1 .. 30");
        reads("lay 0 0 0 0 1;", 1);
        reads("lay 0 0 0 0 30;", 1);
        fault("lay 0 0 0 0 0;", 12);
        fault("lay 0 0 0 0 31;", 12);
        fault("lay 0 0 0 0 99;", 12);
        Due.is("1 each", Due.laid("lay 0 38 0 19 1;").oil(-1), 780);
        Due.is("30 each", Due.laid("lay 0 38 0 19 30;").oil(-1), 780 * 30);
    }

    private static void whatIsLaid() {
        Due.sentence("1: BOARDS A .. B, STRETCHES S .. T get N DROPS more each");
        OilLane x = Due.laid("lay 5 8 3 6 2;lay 8 9 6 7 3;");
        for (int board = 3; board <= 11; board++) {
            for (int stretch = 1; stretch <= 9; stretch++) {
                int first = board >= 5 && board <= 8 && stretch >= 3 && stretch <= 6 ? 2 : 0;
                int second = board >= 8 && board <= 9 && stretch >= 6 && stretch <= 7 ? 3 : 0;
                Due.is("drops(" + board + ", " + stretch + ")", x.drops(board, stretch), first + second);
            }
        }
        Due.is("and no others", x.oil(-1), 16 * 2 + 4 * 3);
    }

    private static void stripStretches() {
        Due.sentence("1: strip S T: S, T 0 .. 19, T no less than S");
        reads("strip 0 0;", 1);
        reads("strip 0 19;", 1);
        reads("strip 19 19;", 1);
        fault("strip 20 20;", 6);
        fault("strip 20 19;", 6);
        fault("strip 0 20;", 8);
        fault("strip 19 20;", 9);
        reads("strip 7 7;", 1);
        reads("strip 9 10;", 1);
        fault("strip 7 6;", 8);
        fault("strip 10 9;", 9);
    }

    private static void whatIsStripped() {
        Due.sentence("1: strip S T (STRETCHES S .. T are dry)");
        OilLane x = Due.laid("lay 0 38 0 19 5;strip 3 5;");
        for (int stretch = 0; stretch < 20; stretch++) {
            Due.is("oil(" + stretch + ")", x.oil(stretch), stretch >= 3 && stretch <= 5 ? 0 : 39 * 5);
        }
        Due.is("all of them", Due.laid("lay 0 38 0 19 30;strip 0 19;").oil(-1), 0);
        Due.is("what comes behind stays", Due.laid("strip 0 19;lay 0 0 0 0 4;").oil(-1), 4);
        Due.is("the last one alone", Due.laid("lay 0 38 0 19 1;strip 19 19;").oil(-1), 19 * 39);
        Due.is("99 are gone at once", Due.laid("lay 0 0 0 0 30;".repeat(4) + "strip 0 0;lay 0 0 0 0 1;").oil(-1), 1);
    }

    private static void letters() {
        Due.sentence("1: TOKENS are words of letters a .. z, NUMBERS and ;");
        fault("a", 0);
        fault("z", 0);
        // a sign just beside a .. z ends the word lay, and begins no TOKEN; a letter would make it another word
        fault("lay`", 3);
        fault("lay{", 3);
        fault("laya", 0);
        fault("layz", 0);
        fault("layA", 3);
        fault("layZ", 3);
        fault("Lay 0 0 0 0 1;", 0);
        fault("LAY 0 0 0 0 1;", 0);
        // the same of 0 .. 9
        fault("lay 1/", 5);
        fault("lay 1:", 5);
        reads("lay 0 9 0 9 9;", 1);
        reads("strip 10 19;", 1);
    }

    // ---- FAULTS

    private static void cantStandThere() {
        Due.sentence("1: FAULT: the place of the first byte of the first TOKEN that can't stand there");
        fault("5", 0);
        fault("  5 lay", 2);
        fault("lay lay", 4);
        fault("lay strip", 4);
        fault("lay ;", 4);
        fault("lay 0 ;", 6);
        fault("lay 0 0 ;", 8);
        fault("lay 0 0 0 ;", 10);
        fault("lay 0 0 0 0 ;", 12);
        fault("lay 0 0 0 0;", 11);
        fault("strip ;", 6);
        fault("strip 0 ;", 8);
        fault("strip 0 lay 0;", 8);
        fault("strip 0 0 lay 0;", 10);
        fault("strip 0 0; 7 7;", 11);
        fault("strip 0 0;   ;", 13);
    }

    private static void firstOfTwoFaults() {
        Due.sentence("1: FAULT: .. the first TOKEN ..: what comes behind it doesn't matter");
        fault("lay 39 $", 4);
        fault("$ lay 39", 0);
        fault("lay 0 0 20 100 $ zz", 8);
        fault("lay 5 4 zz", 6);
        fault("zz 100", 0);
        fault("lay 100 zz", 4);
        fault("strip 0 0; zz; $", 11);
    }

    private static void thirteenthItem() {
        Due.sentence("1: FAULT: .. (a 13th ITEM, .. too)");
        String twelve = STRIP.repeat(12);
        reads(STRIP.repeat(11), 11);
        reads(twelve, 12);
        reads(twelve + "   ", 12);
        fault(twelve + STRIP, 120);
        fault(twelve + "  lay 0 0 0 0 1;", 122);
        fault(twelve + "lay", 120);
        fault(twelve + " zz", 121);
        fault(twelve + ";", 120);
        fault(STRIP.repeat(30), 120);
        String twelveLays = "lay 0 0 0 0 1;".repeat(12);
        Due.is("twelve are laid", Due.laid(twelveLays).oil(-1), 12);
        fault(twelveLays + STRIP, 168);
        fault(STRIP.repeat(11) + "strip 0 20;", 118);
    }

    private static void beginsNone() {
        Due.sentence("1: FAULT: of a byte that begins none, .. that TOKEN's");
        for (int b : new int[] {0, 1, 31, 33, 45, 47, 58, 60, 64, 65, 90, 91, 96, 123, 126, 127, 128, 200, 255}) {
            String odd = String.valueOf((char) b);
            fault(odd, 0);
            fault("  " + odd, 2);
            fault("lay " + odd, 4);
            fault("strip 0" + odd, 7);
            fault("strip 0 0 " + odd, 10);
            fault("strip 0 0;" + odd + "strip 0 0;", 10);
        }
    }

    private static void noSuchWord() {
        Due.sentence("1: FAULT: .. of a word that is none of these, .. that TOKEN's");
        String[] words = {"l", "la", "lays", "layy", "llay", "xay", "lxy", "lax", "s", "stri", "strips", "sstrip", "xtrip", "sxrip",
            "stxip", "strxp", "strix", "laystrip", "x"};
        for (String word : words) {
            fault(word, 0);
            fault(" " + word + " 0 0;", 1);
            fault("lay " + word, 4);
            fault("strip 0 0 " + word, 10);
            fault("strip 0 0;" + word, 10);
        }
    }

    private static void numberTooLong() {
        Due.sentence("1: FAULT: .. a NUMBER above 99 .., that TOKEN's");
        for (String number : new String[] {"99", "100", "101", "256", "999", "4294967296", "18446744073709551616"}) {
            fault("lay " + number + " 0 0 0 1;", 4);
            fault("strip 0 " + number + ";", 8);
            fault("lay 0 0 0 0 " + number + ";", 12);
            fault("strip 0 0 " + number, 10);
            fault(number, 0);
        }
    }

    private static void zeroAhead() {
        Due.sentence("1: FAULT: .. a NUMBER .. with a 0 ahead of others, that TOKEN's");
        reads("strip 0 10;", 1);
        for (String number : new String[] {"00", "01", "05", "09", "000", "010", "0000000000"}) {
            fault("strip " + number + " 19;", 6);
            fault("strip 0 " + number + ";", 8);
            fault("lay 0 38 0 19 " + number + ";", 14);
        }
    }

    private static void endsTooEarly() {
        Due.sentence("1: FAULT: .. the text's length, if it ends too early");
        String lay = "lay 0 38 0 19 30;";
        for (int n = 3; n < lay.length(); n++) {
            if (lay.charAt(n) == ' ' || lay.charAt(n) == ';') {
                fault(lay.substring(0, n), n);
                fault(lay.substring(0, n) + "   ", n + 3);
                fault(STRIP + lay.substring(0, n), 10 + n);
            }
        }
        fault("strip", 5);
        fault("strip 0", 7);
        fault("strip 0 ", 8);
        fault("strip 0 0", 9);
        fault("strip 0 0  ", 11);
        fault(STRIP.repeat(11) + "strip 0 0", 119);
    }

    private static void faultChangesNothing() {
        Due.sentence("Promise 4: -10 less FAULT: nothing changes");
        OilLane x = Due.laid("lay 0 0 0 0 7;");
        Due.type(x, "lay 1 1 0 0 9");
        Due.is("pattern(0)", x.pattern(0), -23);
        Due.is("pattern(0) again", x.pattern(0), -23);
        Due.is("THE TEXT stays", x.count(2), 13);
        Due.is("the PATTERN stays", x.lay(0), 7);
        Due.is("another isn't told", x.lay(1), Due.STATE);
        Due.is("THE TEXT goes on where it was", Due.type(x, ";").count(2), 14);
        Due.is("pattern(1)", x.pattern(1), 1);
        Due.is("lay(1)", x.lay(1), 9);
        Due.is("lay(0)", x.lay(0), 7);
    }

    // ---- PATTERNS

    private static void whichPatterns() {
        Due.sentence("1: PATTERNS 0 .. 3");
        OilLane x = new OilLane();
        for (int k : new int[] {-1, 4, Due.LOWEST, Due.HIGHEST}) {
            Due.is("pattern(" + k + ")", x.pattern(k), Due.BAD);
            Due.is("lay(" + k + ")", x.lay(k), Due.BAD);
        }
        for (int k = 0; k < 4; k++) {
            Due.is("lay(" + k + ") untold", x.lay(k), Due.STATE);
            Due.type(x, "lay 0 0 0 0 " + (k + 1) + ";");
            Due.is("pattern(" + k + ")", x.pattern(k), 1);
            Due.is("count(3)", x.count(3), (2 << k) - 1);
        }
        for (int k = 0; k < 4; k++) {
            Due.is("lay(" + k + ")", x.lay(k), k + 1);
        }
    }

    private static void badAheadOfFault() {
        Due.sentence("Refused, the first of these: BAD (pattern, lay), ahead of FAULT and STATE");
        OilLane x = Due.type(new OilLane(), "zz");
        Due.is("pattern(-1)", x.pattern(-1), Due.BAD);
        Due.is("pattern(4)", x.pattern(4), Due.BAD);
        Due.is("pattern(0)", x.pattern(0), -10);
        Due.is("THE TEXT stays", x.count(2), 2);
        x = Due.type(new OilLane(), STRIP);
        Due.is("pattern(4) of what could be read", x.pattern(4), Due.BAD);
        Due.is("THE TEXT stays", x.count(2), 10);
        Due.is("none was told", x.count(3), 0);
        Due.is("lay(4)", x.lay(4), Due.BAD);
        Due.is("lay(3)", x.lay(3), Due.STATE);
    }

    private static void untold() {
        Due.sentence("Promise 5: STATE: it was not told");
        OilLane x = Due.laid("lay 0 38 0 19 1;");
        x.shot(19, 0, 0, 0);
        for (int k = 1; k < 4; k++) {
            Due.is("lay(" + k + ")", x.lay(k), Due.STATE);
        }
        Due.is("THE LANE stays", x.oil(-1), 780 - 9);
        Due.is("lay(0)", x.lay(0), 780);
    }

    private static void laidFresh() {
        Due.sentence("Promise 5: THE LANE becomes as a PATTERN tells: all DROPS");
        OilLane x = Due.laid("lay 0 38 0 19 2;");
        Due.is("not added to what was there", x.lay(0), 1560);
        Due.tell(x, 1, "lay 3 3 3 3 3;");
        Due.is("telling lays nothing", x.oil(-1), 1560);
        Due.is("nothing else stays", x.lay(1), 3);
        Due.tell(x, 1, "");
        Due.is("the lane stays as it was laid", x.oil(-1), 3);
        Due.is("an empty one dries all", x.lay(1), 0);
        Due.is("lay(0)", x.lay(0), 1560);
    }

    private static void toldIsEmptied() {
        Due.sentence("Promise 4: THE TEXT becomes a PATTERN, and is empty then");
        OilLane x = Due.tell(new OilLane(), 0, STRIP.repeat(12));
        Due.is("count(2)", x.count(2), 0);
        Due.is("the next begins from 0", Due.type(x, STRIP).pattern(0), 1);
        Due.is("clear()", x.clear(), 0);
    }

    // ---- BALLS

    private static void balls() {
        Due.sentence("1: BALLS 0 .. 5 have a SKIN (the number and 2 at first) and a WEIGHT (12 at first)");
        OilLane x = new OilLane();
        for (int k = 0; k < 6; k++) {
            Due.is("ball(" + k + ", 0, 1)", x.ball(k, 0, 1), k + 2);
            Due.is("ball(" + k + ", 1, 5)", x.ball(k, 1, 5), 12);
        }
        for (int k : new int[] {-1, 6, Due.LOWEST, Due.HIGHEST}) {
            Due.is("ball(" + k + ", 0, 5)", x.ball(k, 0, 5), Due.BAD);
            Due.is("ball(" + k + ", 1, 5)", x.ball(k, 1, 5), Due.BAD);
        }
        for (int k = 0; k < 6; k++) {
            Due.is("ball(" + k + ", 0, 1) again", x.ball(k, 0, 1), 1);
            Due.is("ball(" + k + ", 1, 5) again", x.ball(k, 1, 5), 5);
        }
    }

    private static void skins() {
        Due.sentence("1: a SKIN (1 .. 9)");
        OilLane x = new OilLane();
        Due.is("0", x.ball(4, 0, 0), Due.BAD);
        Due.is("10", x.ball(4, 0, 10), Due.BAD);
        Due.is("-1", x.ball(4, 0, -1), Due.BAD);
        Due.is("LOWEST", x.ball(4, 0, Due.LOWEST), Due.BAD);
        Due.is("HIGHEST", x.ball(4, 0, Due.HIGHEST), Due.BAD);
        Due.is("1, from 6 still", x.ball(4, 0, 1), 6);
        Due.is("9", x.ball(4, 0, 9), 1);
        Due.is("10, from 9", x.ball(4, 0, 10), Due.BAD);
        Due.is("9 still", x.ball(4, 0, 9), 9);
        Due.is("its WEIGHT stays", x.ball(4, 1, 12), 12);
    }

    private static void weights() {
        Due.sentence("1: a WEIGHT (5 .. 16)");
        OilLane x = new OilLane();
        Due.is("4", x.ball(4, 1, 4), Due.BAD);
        Due.is("17", x.ball(4, 1, 17), Due.BAD);
        Due.is("0", x.ball(4, 1, 0), Due.BAD);
        Due.is("LOWEST", x.ball(4, 1, Due.LOWEST), Due.BAD);
        Due.is("HIGHEST", x.ball(4, 1, Due.HIGHEST), Due.BAD);
        Due.is("5, from 12 still", x.ball(4, 1, 5), 12);
        Due.is("16", x.ball(4, 1, 16), 5);
        Due.is("17, from 16", x.ball(4, 1, 17), Due.BAD);
        Due.is("16 still", x.ball(4, 1, 16), 16);
        Due.is("its SKIN stays", x.ball(4, 0, 6), 6);
    }

    private static void whatOfABall() {
        Due.sentence("Promise 8: SKIN (what = 0), WEIGHT (1)");
        OilLane x = new OilLane();
        for (int what : new int[] {-1, 2, Due.LOWEST, Due.HIGHEST}) {
            Due.is("ball(0, " + what + ", 7)", x.ball(0, what, 7), Due.BAD);
        }
        Due.is("SKIN", x.ball(0, 0, 7), 2);
        Due.is("WEIGHT", x.ball(0, 1, 7), 12);
        Due.is("SKIN again", x.ball(0, 0, 7), 7);
        Due.is("WEIGHT again", x.ball(0, 1, 7), 7);
    }

    public static void main(String[] args) {
        boards();
        stretches();
        oilOfStretches();
        cells();
        neverBelowNone();
        newObject();
        objectsAreApart();
        howManyBytes();
        whichBytes();
        threeHundredBytes();
        badAheadOfFull();
        clear();
        noText();
        blanks();
        itemsEnd();
        layBoards();
        layBoardsInOrder();
        layStretches();
        layStretchesInOrder();
        layDrops();
        whatIsLaid();
        stripStretches();
        whatIsStripped();
        letters();
        cantStandThere();
        firstOfTwoFaults();
        thirteenthItem();
        beginsNone();
        noSuchWord();
        numberTooLong();
        zeroAhead();
        endsTooEarly();
        faultChangesNothing();
        whichPatterns();
        badAheadOfFault();
        untold();
        laidFresh();
        toldIsEmptied();
        balls();
        skins();
        weights();
        whatOfABall();
        Due.end();
    }
}
