/** For each promise of the document: ordinary inputs, the edges that it names, and wrong inputs, worked out by hand. */
public final class PromiseTest {
    private static int wrong = 0;

    private static void due(String what, long got, long want) {
        if (got != want) {
            wrong++;
            System.out.println(what + " answered " + got + ", due is " + want);
        }
    }

    private static void tell(OilLane x, String text) {
        for (int k = 0; k < text.length(); k++) {
            x.type(text.charAt(k), 1);
        }
    }

    private static OilLane laid(String text) {
        OilLane x = new OilLane();
        tell(x, text);
        x.pattern(0);
        x.lay(0);
        return x;
    }

    private static void reads(String text, int want) {
        OilLane x = new OilLane();
        tell(x, text);
        due("pattern of '" + text + "'", x.pattern(1), want);
        due("text behind '" + text + "'", x.count(2), want < 0 ? text.length() : 0);
        due("told behind '" + text + "'", x.count(3), want < 0 ? 0 : 2);
    }

    private static void newObject() {
        OilLane x = new OilLane();
        due("1 oil", x.oil(-1), 0);
        for (int what = 0; what < 4; what++) {
            due("1 count", x.count(what), 0);
        }
        due("1 came", x.came(0), OilLane.NO);
        due("1 worth", x.worth(0), OilLane.NO);
        due("1 trace", x.trace(), 0);
        due("1 lay", x.lay(0), OilLane.STATE);
        due("1 back", x.back(0), OilLane.STATE);
        due("1 stands", x.stands(0, 0), OilLane.NO);
        due("1 evening", x.evening(3), 0);
        due("1 evening throws nothing", x.came(0), OilLane.NO);
        due("1 game", x.game(3), 300);
        for (int k = 0; k < 6; k++) {
            due("1 skin", x.ball(k, 0, 9), k + 2);
            due("1 weight", x.ball(k, 1, 16), 12);
        }
    }

    private static void type() {
        OilLane x = new OilLane();
        due("2 n 0", x.type(1, 0), OilLane.BAD);
        due("2 n 9", x.type(1, 9), OilLane.BAD);
        due("2 lowest bytes, highest first", x.type(0x41_73_74_72_69_70L, 5), 5);
        due("2 strip", x.type(0x20_31_20_33_3BL, 5), 10);
        due("2 was strip 1 3;", x.pattern(0), 1);
        for (int k = 1; k <= 37; k++) {
            due("2 eight more", x.type(-1L, 8), 8 * k);
        }
        due("2 too many", x.type(-1L, 5), OilLane.FULL);
        due("2 BAD ahead of FULL", x.type(-1L, 9), OilLane.BAD);
        due("2 unchanged", x.count(2), 296);
        due("2 just full", x.type(-1L, 4), 300);
        due("2 one too many", x.type(-1L, 1), OilLane.FULL);
        due("2 the byte 255 begins no token", x.pattern(0), -10);
    }

    private static void clear() {
        OilLane x = new OilLane();
        due("3 none", x.clear(), 0);
        tell(x, "lay");
        due("3 three", x.clear(), 3);
        due("3 none again", x.clear(), 0);
        due("3 count", x.count(2), 0);
    }

    private static void pattern() {
        reads("", 0);
        reads("   ", 0);
        reads("lay 0 38 0 19 1;", 1);
        reads("  strip   0  19 ;  lay 38 38 19 19 30 ;", 2);
        reads("strip0 0;lay0 0 0 0 1;", 2);
        reads("lay 0 38 0 19 1", -25);
        reads("lay 0 38 0 19 1  ", -27);
        reads("lay", -13);
        reads("lay 39 39 0 0 1;", -14);
        reads("lay 0 39 0 0 1;", -16);
        reads("lay 9 8 0 0 1;", -16);
        reads("lay 0 0 20 20 1;", -18);
        reads("lay 0 0 0 20 1;", -20);
        reads("lay 0 0 5 4 1;", -20);
        reads("lay 0 0 0 0 0;", -22);
        reads("lay 0 0 0 0 31;", -22);
        reads("lay 0 0 0 0 1 1;", -24);
        reads("lay 0 0 0 0;", -21);
        reads("lay 100 0 0 0 1;", -14);
        reads("lay 00 0 0 0 1;", -14);
        reads("lay 0 07 0 0 1;", -16);
        reads("lay 99999999999999999999 0 0 0 1;", -14);
        reads("lay 4294967296 0 0 0 1;", -14);
        reads("strip 20 20;", -16);
        reads("strip 0 20;", -18);
        reads("strip 7 6;", -18);
        reads("strip 0 0 0;", -20);
        reads("strip 0 0;;", -20);
        reads("strip 0 0; 5", -21);
        reads("strip strip 0;", -16);
        reads("strips 0 0;", -10);
        reads("stri 0 0;", -10);
        reads("lays 0 0 0 0 1;", -10);
        reads(" Lay 0 0 0 0 1;", -11);
        reads("laY 0 0 0 0 1;", -10);
        reads("strip 0 0;\t", -20);
        reads("strip 0 -1;", -18);
        reads("; strip 0 0;", -10);
        String twelve = "strip 0 0;".repeat(12);
        reads(twelve, 12);
        reads(twelve + "  ", 12);
        reads(twelve + " strip 0 0;", -131);
        reads(twelve + " lay", -131);
        OilLane x = new OilLane();
        due("4 k -1", x.pattern(-1), OilLane.BAD);
        due("4 k 4", x.pattern(4), OilLane.BAD);
        tell(x, "oops");
        due("4 BAD ahead of FAULT", x.pattern(4), OilLane.BAD);
        x = laid("lay 0 0 0 0 7;");
        tell(x, "lay 0 0 0 0 9; lay");
        due("4 FAULT", x.pattern(0), -28);
        due("4 the told one stays", x.lay(0), 7);
        x.clear();
        tell(x, "lay 0 0 0 0 9;");
        due("4 told anew", x.pattern(0), 1);
        due("4 in its place", x.lay(0), 9);
    }

    private static void lay() {
        OilLane x = laid("lay 2 4 5 6 10; lay 3 8 6 7 20; strip 7 7; lay 8 8 7 7 3;");
        due("5 all", x.lay(0), 3 * 2 * 10 + 6 * 20 + 3);
        due("5 not added", x.lay(0), 183);
        due("5 both items", x.drops(3, 6), 30);
        due("5 stripped", x.drops(3, 7), 0);
        due("5 behind the strip", x.drops(8, 7), 3);
        due("5 not told", x.lay(1), OilLane.STATE);
        due("5 k -1", x.lay(-1), OilLane.BAD);
        due("5 k 4", x.lay(4), OilLane.BAD);
        due("5 unchanged", x.oil(-1), 183);
        due("5 no more than 99", laid("lay 0 1 0 0 30;".repeat(4)).oil(-1), 198);
        due("5 99 and then more", laid("lay 0 0 0 0 30;".repeat(5) + "strip 0 0;lay 0 0 0 0 1;").oil(-1), 1);
    }

    private static void dropsAndOil() {
        OilLane x = laid("lay 0 0 0 0 4; lay 38 38 19 19 6; lay 5 9 3 4 2;");
        due("6 first cell", x.drops(0, 0), 4);
        due("6 last cell", x.drops(38, 19), 6);
        due("6 board -1", x.drops(-1, 0), OilLane.BAD);
        due("6 board 39", x.drops(39, 0), OilLane.BAD);
        due("6 stretch -1", x.drops(0, -1), OilLane.BAD);
        due("6 stretch 20", x.drops(0, 20), OilLane.BAD);
        due("7 stretch 0", x.oil(0), 4);
        due("7 stretch 3", x.oil(3), 10);
        due("7 stretch 19", x.oil(19), 6);
        due("7 all", x.oil(-1), 30);
        due("7 -2", x.oil(-2), OilLane.BAD);
        due("7 20", x.oil(20), OilLane.BAD);
    }

    private static void ball() {
        OilLane x = new OilLane();
        due("8 skin", x.ball(3, 0, 1), 5);
        due("8 skin again", x.ball(3, 0, 9), 1);
        due("8 weight", x.ball(3, 1, 5), 12);
        due("8 weight again", x.ball(3, 1, 16), 5);
        int[][] bad = {{-1, 0, 5}, {6, 0, 5}, {0, -1, 5}, {0, 2, 5}, {0, 0, 0}, {0, 0, 10}, {0, 1, 4}, {0, 1, 17}};
        for (int[] b : bad) {
            due("8 BAD", x.ball(b[0], b[1], b[2]), OilLane.BAD);
        }
        due("8 unchanged skin", x.ball(0, 0, 2), 2);
        due("8 unchanged weight", x.ball(0, 1, 12), 12);
    }

    private static void cameIs(OilLane x, String what, int... want) {
        for (int k = 0; k < want.length; k++) {
            due(what + " came(" + k + ")", x.came(k), want[k]);
        }
    }

    private static void shot() {
        OilLane x = laid("lay 19 19 0 11 1;");
        due("9 straight", x.shot(19, 0, 0, 0), 10);
        // FILM takes 9 on the first nine stretches, none on three more, and leaves 8 behind them
        cameIs(x, "9 film", 195, 0, 0, 1, 0, 0, 1023);
        due("9 taken", x.drops(19, 8), 0);
        due("9 not taken", x.drops(19, 9), 1);
        due("9 left", x.drops(19, 12), 1);
        due("9 left at the end", x.drops(19, 19), 1);
        due("9 one went with the ball", x.oil(-1), 11);

        x = new OilLane();
        x.ball(0, 0, 9);
        // GRIP 90: TURN 30, 28, 26 .. adds 27 (47, so 40): 5 + 40 * 9 = 365, and the tenth step is beyond 389
        due("9 hard over", x.shot(0, 20, 30, 0), 0);
        cameIs(x, "9 hard over", -1, 40, 10, 0, 0, 1, 0);
        due("9 the other side", x.shot(38, -20, -30, 0), 0);
        cameIs(x, "9 the other side", -1, -40, -10, 0, 0, 1, 0);
        // GRIP 90, TURN -1 and 1: 90 by 100 is 0 to both sides, and TURN comes to 0, not beyond
        due("9 toward 0", x.shot(19, 0, -1, 0), 10);
        cameIs(x, "9 toward 0", 195, 0, 0, 0, 0, 0, 1023);
        x.shot(19, 0, 1, 0);
        cameIs(x, "9 toward 0 from above", 195, 0, 0, 0, 0, 0, 1023);

        x = new OilLane();
        x.ball(1, 0, 1);
        // GRIP 10: TURN stays 20 and adds 2 each: 5 + 2 + 4 + .. + 36 = 347 after 18, 385 after 19, then beyond
        x.shot(0, 0, 20, 1);
        cameIs(x, "9 grip 10", -1, 40, 20, 0, 0, 20, 0);
        x.ball(1, 0, 5);
        // GRIP 50: TURN 4, 3, 2, 1 adds 2, 1, 1, 0: SLANT 2, 3, 4, 4 ..: 105 + 5 + 4 * 18
        x.shot(10, 0, 4, 1);
        cameIs(x, "9 grip 50", 182, 4, 0, 0, 0, 3, 1023);
        x.ball(1, 0, 6);
        // GRIP 60: TURN 4, 2 adds 2, 1: 105 + 2 + 3 * 19
        x.shot(10, 0, 4, 1);
        cameIs(x, "9 grip 60", 164, 3, 0, 0, 0, 2);

        x = laid("lay 0 38 0 9 9; lay 0 38 10 19 10;");
        // nine DROPS leave GRIP 2, ten none: it SLIDES in ten
        x.shot(19, 0, 30, 0);
        cameIs(x, "9 slides", 195, 0, 30, 9, 10, 0, 1023);
        due("9 near the other edge", new OilLane().tried(10, -5, 0, 0), 5);
        due("9 near the edge", new OilLane().tried(0, 19, 0, 0), 385);
        int[][] bad = {{-1, 0, 0, 0}, {39, 0, 0, 0}, {0, -21, 0, 0}, {0, 21, 0, 0}, {0, 0, -31, 0}, {0, 0, 31, 0},
            {0, 0, 0, -1}, {0, 0, 0, 6}};
        int drops = x.oil(-1);
        for (int[] b : bad) {
            due("9 BAD", x.shot(b[0], b[1], b[2], b[3]), OilLane.BAD);
            due("11 BAD", x.tried(b[0], b[1], b[2], b[3]), OilLane.NO);
        }
        due("9 unchanged", x.oil(-1), drops);
        due("9 the latest stays", x.came(2), 30);
    }

    private static void cameAndTried() {
        OilLane x = laid("lay 0 38 0 19 1;");
        due("11 gutter", x.tried(0, -1, 0, 0), -1);
        due("11 place", x.tried(19, 1, 0, 0), 215);
        due("11 leaves the lane", x.oil(-1), 780);
        due("11 is not thrown", x.came(0), OilLane.NO);
        x.shot(19, 1, 0, 0);
        due("10 place", x.came(0), 215);
        due("10 film", x.came(3), 9);
        due("10 -1", x.came(-1), OilLane.NO);
        due("10 7", x.came(7), OilLane.NO);
        due("10 thrown takes oil", x.oil(-1), 771);
        x.tried(10, 0, 0, 0);
        due("10 the thrown one stays", x.came(0), 215);
        x.shot(0, -1, 0, 0);
        // SLANT -1 from 5: beyond 0 in the sixth stretch, so six DROPS
        cameIs(x, "10 gutter", -1, -1, 0, 6, 0, 0, 0);
    }

    private static void fall() {
        OilLane x = new OilLane();
        due("12 within 25", x.fall(170, 0, 12, 1), 1);
        due("12 beyond 25", x.fall(169, 0, 12, 1), 0);
        due("12 within -25", x.fall(220, 0, 12, 1), 1);
        due("12 beyond -25", x.fall(221, 0, 12, 1), 0);
        // OFF 5 hits 30 more alone, on and on: 0, 2, 5, 9, while the ball goes away to the other side
        due("12 above 4: 30 more", x.fall(190, -40, 12, 0b1000100101), 0b1000100101);
        due("12 above 4: not 30 less", x.fall(190, 40, 12, 0b0000001011), 0b0000000001);
        due("12 below -4: not 30 more", x.fall(200, -40, 12, 0b0000100101), 0b0000000001);
        due("12 OFF 4: both", x.fall(191, -40, 12, 0b0000000101), 0b0000000101);
        due("12 OFF -4: both", x.fall(199, 40, 12, 0b0000000011), 0b0000000011);
        // OFF 25 moves the ball by 5 * 12 / 5 = 12 with WEIGHT 5 (170 to 158, 7 from PIN 1), by 3 with 16
        due("12 pushed back by a light one", x.fall(170, -15, 5, 0b0000000011), 0b11);
        due("12 and too far", x.fall(170, -20, 5, 0b0000000011), 0b01);
        due("12 a heavy one stays nearer", x.fall(170, -20, 16, 0b0000000011), 0b11);
        due("12 what does not stand hits nothing", x.fall(195, 0, 12, 0b1000000001), 1);
        // PIN 0 (OFF -4) hits 1 and 2; the ball, at 239, fells 2 first (OFF -14), which hits 4 ahead of 1: 4 hits 7 alone
        due("12 the first that hit", x.fall(199, 40, 12, 1023), 0b0011011111);
        // PIN 0 (OFF 4) hits 1 and 2; the ball, at 151, fells 1 (OFF 14), which hits 4 ahead of 2: 4 hits 8 alone
        due("12 the first, from the other side", x.fall(191, -40, 12, 1023), 0b1100110111);
        due("12 nothing stands", x.fall(195, 0, 12, 0), 0);
        due("12 all", x.fall(195, 0, 12, 1023), 1023);
        due("12 last place", x.fall(389, -40, 16, 1023), 512);
        int[][] bad = {{-1, 0, 12, 1}, {390, 0, 12, 1}, {195, -41, 12, 1}, {195, 41, 12, 1}, {195, 0, 4, 1},
            {195, 0, 17, 1}, {195, 0, 12, -1}, {195, 0, 12, 1024}};
        for (int[] b : bad) {
            due("12 BAD", x.fall(b[0], b[1], b[2], b[3]), OilLane.BAD);
        }
    }

    private static void rolls(OilLane x, int... pins) {
        for (int p : pins) {
            x.roll(p);
        }
    }

    private static void games() {
        OilLane x = new OilLane();
        due("13 -1", x.roll(-1), OilLane.BAD);
        due("13 11", x.roll(11), OilLane.BAD);
        due("13 first", x.roll(4), 1);
        due("13 more than stand", x.roll(7), OilLane.BAD);
        due("14 rolls", x.game(0), 1);
        due("14 an open frame adds nothing", x.game(1), 0);
        due("14 no frame", x.game(2), 0);
        due("14 most", x.game(3), 20 + 9 * 30);
        due("13 spare", x.roll(6), 2);
        due("14 spare without the next", x.game(1), 10);
        due("14 one frame", x.game(2), 1);
        due("13 strike", x.roll(10), 3);
        due("14 spare with the next, strike", x.game(1), 30);
        rolls(x, 3);
        due("14 strike with one", x.game(1), 33);
        due("14 most behind 3", x.game(3), 20 + 20 + 20 + 7 * 30);
        rolls(x, 4);
        due("14 strike with two", x.game(1), 20 + 17 + 7);
        due("14 not over", x.game(4), 0);
        due("14 -1", x.game(-1), OilLane.BAD);
        due("14 5", x.game(5), OilLane.BAD);
        due("15 anew", x.anew(), 5);
        due("15 none", x.anew(), 0);
        due("15 sum", x.game(1), 0);

        for (int k = 0; k < 18; k++) {
            x.roll(0);
        }
        due("14 most of zeros", x.game(3), 30);
        rolls(x, 10, 4);
        due("13 tenth, 4 and 7", x.roll(7), OilLane.BAD);
        due("14 tenth is open", x.game(2), 9);
        due("14 tenth adds nothing yet", x.game(1), 0);
        due("14 tenth's most", x.game(3), 20);
        due("13 tenth, 4 and 6", x.roll(6), 21);
        due("14 tenth only its own", x.game(1), 20);
        due("14 over", x.game(4), 1);
        due("13 over", x.roll(0), OilLane.STATE);
        due("13 BAD ahead of over", x.roll(11), OilLane.BAD);
        x.anew();
        for (int k = 0; k < 9; k++) {
            x.roll(10);
        }
        due("14 nine strikes", x.game(1), 7 * 30 + 20 + 10);
        rolls(x, 10, 10);
        due("13 third behind two strikes", x.roll(3), 12);
        due("14 near perfect", x.game(1), 293);
        x.anew();
        rolls(x, 10, 10, 10, 10, 10, 10, 10, 10, 10, 5, 5);
        due("14 spare in the tenth is not over", x.game(4), 0);
        due("13 its third", x.roll(10), 12);
        due("14 sum", x.game(1), 7 * 30 + 25 + 20 + 20);
        x.anew();
        rolls(x, 10, 10, 10, 10, 10, 10, 10, 10, 10, 5);
        due("13 second in the tenth", x.roll(6), OilLane.BAD);
        due("13 open tenth", x.roll(4), 11);
        due("14 is over", x.game(4), 1);
        due("14 ten frames", x.game(2), 10);
    }

    private static void scatter() {
        OilLane x = new OilLane();
        due("16 to itself", x.scatter(1, 2, 2, 6), 6);
        due("16 more than there are to itself", x.scatter(1, 2, 2, 7), OilLane.BAD);
        due("16 none", x.scatter(1, 0, 1, 0), 2);
        due("16 goes", x.scatter(1, 2, 0, 5), 5);
        due("16 what stays", x.scatter(1, 2, 0, 2), OilLane.BAD);
        due("16 the last of it", x.scatter(1, 2, 0, 1), 6);
        due("16 another hand", x.scatter(0, 2, 0, 6), 6);
        int[][] bad = {{-1, 2, 1, 1}, {4, 2, 1, 1}, {2, -1, 1, 0}, {2, 5, 1, 0}, {2, 2, -1, 0}, {2, 2, 5, 0}, {2, 2, 1, -1}};
        for (int[] b : bad) {
            due("16 BAD", x.scatter(b[0], b[1], b[2], b[3]), OilLane.BAD);
        }
        due("16 unchanged", x.scatter(2, 1, 2, 0), 6);
    }

    private static void meanAndBest() {
        OilLane x = laid("lay 0 38 0 19 9;");
        // straight balls at 185, 195, 205 fell all; from 175 and 215 too; from 165 six (PINS 1, 3, 4, 6, 7, 8)
        due("17 all fall", x.mean(0, 19, 0, 0, 0), 100);
        x.scatter(0, 2, 0, 6);
        x.scatter(0, 1, 0, 2);
        x.scatter(0, 3, 0, 2);
        due("17 two boards less", x.mean(0, 18, 0, 0, 0), 10 * Integer.bitCount(x.fall(165, 0, 12, 1023)));
        due("17 a board that is none", x.mean(0, 1, 10, 0, 0), 0);
        due("17 unchanged", x.oil(-1), 780 * 9);
        due("17 not thrown", x.came(0), OilLane.NO);
        int[][] bad = {{-1, 0, 0, 0, 0}, {4, 0, 0, 0, 0}, {0, -1, 0, 0, 0}, {0, 39, 0, 0, 0}, {0, 0, -21, 0, 0},
            {0, 0, 21, 0, 0}, {0, 0, 0, -31, 0}, {0, 0, 0, 31, 0}, {0, 0, 0, 0, -1}, {0, 0, 0, 0, 6}};
        for (int[] b : bad) {
            due("17 BAD", x.mean(b[0], b[1], b[2], b[3], b[4]), OilLane.BAD);
        }
        // from two boards less with AIM 6: 10 * (BOARD - 2) + 5 + 120 comes to within 25 of 195 first from BOARD 7
        int first = 0;
        while (x.mean(0, first, 6, 0, 0) < 100) {
            first++;
        }
        due("18 mean", x.best(0, 0, 0), 100);
        due("18 ball", x.best(0, 0, 1), 0);
        due("18 board", x.best(0, 0, 2), first);
        due("18 aim", x.best(0, 0, 3), 6);
        due("18 hand -1", x.best(-1, 0, 0), OilLane.NO);
        due("18 hand 4", x.best(4, 0, 0), OilLane.NO);
        due("18 spin -31", x.best(0, -31, 0), OilLane.NO);
        due("18 spin 31", x.best(0, 31, 0), OilLane.NO);
        due("18 what -1", x.best(0, 0, -1), OilLane.NO);
        due("18 what 4", x.best(0, 0, 4), OilLane.NO);
        due("18 unchanged", x.oil(-1), 780 * 9);
    }

    private static void throwers() {
        OilLane x = new OilLane();
        int[][] bad = {{-1, 0, 0, 0, 0}, {39, 0, 0, 0, 0}, {0, -21, 0, 0, 0}, {0, 21, 0, 0, 0}, {0, 0, -31, 0, 0},
            {0, 0, 31, 0, 0}, {0, 0, 0, -1, 0}, {0, 0, 0, 6, 0}, {0, 0, 0, 0, -1}, {0, 0, 0, 0, 3}};
        for (int[] b : bad) {
            due("19 BAD", x.thrower(b[0], b[1], b[2], b[3], b[4]), OilLane.BAD);
        }
        due("19 none yet", x.count(0), 0);
        due("19 first", x.thrower(38, -20, 30, 5, 2), 0);
        int[] told = {38, -20, 30, 5, 2, 0};
        for (int what = 0; what < 6; what++) {
            due("20 as told", x.stands(0, what), told[what]);
        }
        due("20 t -1", x.stands(-1, 0), OilLane.NO);
        due("20 t 1", x.stands(1, 0), OilLane.NO);
        due("20 what -1", x.stands(0, -1), OilLane.NO);
        due("20 what 6", x.stands(0, 6), OilLane.NO);
        due("19 second", x.thrower(0, 0, 0, 0, 0), 1);
        due("19 third", x.thrower(0, 0, 0, 0, 0), 2);
        due("19 fourth", x.thrower(0, 0, 0, 0, 0), 3);
        due("19 fifth", x.thrower(0, 0, 0, 0, 0), OilLane.FULL);
        due("19 BAD ahead of FULL", x.thrower(0, 0, 0, 0, 3), OilLane.BAD);
    }

    /** A lane where SPIN does nothing (GRIP 0), so that places are plain: 10 * BOARD + 5 + 20 * AIM. */
    private static OilLane slick() {
        return laid("lay 0 38 0 19 30;lay 0 38 0 19 30;");
    }

    private static void movesTo(int board, int aim, int spin, int rule, int want, int inRow) {
        OilLane x = slick();
        x.thrower(board, aim, spin, 5, rule);
        x.evening(1);
        String what = "21 from " + board + ", aim " + aim + ", spin " + spin + ", rule " + rule;
        due(what, x.stands(0, 0), want);
        due(what + ", in a row", x.stands(0, 5), inRow);
        due(what + ", ball", x.stands(0, 3), 5);
    }

    private static void comesAt(int board, int aim, int spin, int place, int inRow) {
        OilLane x = laid("lay 0 38 0 18 10;");
        x.thrower(board, aim, spin, 0, 0);
        x.evening(1);
        String what = "21 from " + board + ", aim " + aim + ", spin " + spin;
        due(what, x.came(0), place);
        due(what + ", in a row", x.stands(0, 5), inRow);
    }

    private static void evenings() {
        movesTo(17, 1, 5, 1, 15, 1);
        movesTo(17, 1, -5, 1, 19, 1);
        movesTo(17, 1, 0, 1, 17, 1);
        movesTo(16, 1, 5, 1, 16, 0);
        movesTo(13, 1, 5, 1, 14, 1);
        movesTo(13, 1, -5, 1, 12, 1);
        movesTo(14, 1, 5, 1, 14, 0);
        movesTo(21, -1, 5, 1, 19, 1);
        movesTo(22, -1, 5, 1, 22, 0);
        movesTo(25, -1, -5, 1, 24, 1);
        movesTo(24, -1, -5, 1, 24, 0);
        movesTo(19, 0, 5, 1, 19, 0);
        movesTo(0, -1, 5, 1, 0, 0);
        movesTo(1, 10, 5, 1, 0, 1);
        movesTo(38, -10, -5, 1, 38, 1);
        movesTo(0, 1, -5, 1, 0, 1);
        movesTo(17, 1, 5, 0, 17, 1);
        movesTo(17, 1, 5, 2, 17, 1);

        // the last stretch is dry: GRIP 20 of BALL 0 adds a fifth of the SPIN
        comesAt(15, 2, -5, 194, 0);
        comesAt(15, 2, 0, 195, 1);
        comesAt(15, 2, 5, 196, 1);
        comesAt(9, 3, 30, 161, 0);
        comesAt(9, 3, 25, 160, 1);
        comesAt(23, -2, 5, 196, 0);
        comesAt(23, -2, 0, 195, 1);
        comesAt(29, -3, -30, 229, 0);
        comesAt(29, -3, -25, 230, 1);

        OilLane x = slick();
        x.thrower(17, 1, 5, 5, 2);
        x.thrower(17, 1, 5, 5, 0);
        due("22 all", x.would(2, -1), 40);
        due("22 one", x.would(2, 1), 20);
        due("22 nothing stays", x.stands(0, 5), 0);
        due("22 no oil is taken", x.oil(-1), 780 * 60);
        due("22 is not thrown", x.came(0), OilLane.NO);
        due("21 all", x.evening(2), 40);
        due("21 next ball behind 5", x.stands(0, 3), 0);
        due("21 from 0 again", x.stands(0, 5), 0);
        due("21 with RULE 2 alone", x.stands(1, 5), 2);
        due("21 thrown", x.came(0), 195);
        due("21 oil is taken", x.oil(-1), 780 * 60 - 4 * 9);
        due("21 on and on", x.evening(3), 60);
        due("21 one more ball", x.stands(0, 3), 1);
        due("21 one in a row", x.stands(0, 5), 1);
        due("21 five in a row", x.stands(1, 5), 5);
        for (int n : new int[] {-1, 0, 21}) {
            due("21 BAD", x.evening(n), OilLane.BAD);
            due("22 BAD", x.would(n, -1), OilLane.BAD);
            due("23 BAD", x.order(n, 0), OilLane.BAD);
        }
        due("22 t -2", x.would(1, -2), OilLane.BAD);
        due("22 t 2", x.would(1, 2), OilLane.BAD);
        due("22 twenty", x.would(20, -1), 400);
        due("22 none", new OilLane().would(1, -1), 0);
        due("22 no such one", new OilLane().would(1, 0), OilLane.BAD);
    }

    private static void order() {
        OilLane x = new OilLane();
        due("23 none: pins", x.order(3, 0), 0);
        due("23 none: order", x.order(3, 1), 0);
        x.thrower(19, 0, 0, 0, 0);
        due("23 one", x.order(3, 1), 0);
        x.thrower(19, 0, 0, 0, 0);
        x.thrower(19, 0, 0, 0, 0);
        due("23 equal ones: the least", x.order(3, 1), 12);
        due("23 pins", x.order(3, 0), 90);
        due("23 what -1", x.order(3, -1), OilLane.BAD);
        due("23 what 2", x.order(3, 2), OilLane.BAD);

        orderIs("lay 6 29 0 17 7;", 3, 3021, 34,
            new int[][] {{25, 5, 12, 3, 0}, {23, 1, -1, 0, 1}, {28, -1, -7, 3, 2}, {27, -1, 8, 5, 2}});
        orderIs("lay 8 33 0 9 7;", 3, 3201, 45,
            new int[][] {{21, -2, -7, 2, 2}, {21, -4, -14, 1, 2}, {14, 3, 4, 4, 1}, {15, -6, 10, 0, 2}});
        orderIs("lay 5 33 0 15 7;", 3, 1032, 68,
            new int[][] {{26, 3, -13, 0, 0}, {26, -6, 6, 1, 2}, {14, -6, 9, 3, 2}, {13, 0, -7, 1, 1}});
        orderIs("lay 6 27 0 8 7;", 3, 3120, 91,
            new int[][] {{13, 5, -9, 0, 0}, {14, 2, 5, 0, 1}, {29, -6, 4, 0, 1}, {23, 3, -7, 2, 2}});
        orderIs("lay 2 31 0 16 6;", 4, 3210, 90,
            new int[][] {{11, 5, -6, 0, 0}, {12, 3, 10, 0, 1}, {12, -3, 3, 1, 1}, {10, 5, -6, 1, 2}});
        orderIs("lay 9 29 0 12 7;", 4, 210, 55,
            new int[][] {{15, -2, 7, 2, 2}, {10, 6, 6, 2, 1}, {19, -2, 3, 4, 1}});
    }

    /** The lane under each one is what those ahead of it left; would() tells what comes of throwers told in each order. */
    private static void orderIs(String text, int n, int figures, int pins, int[][] settings) {
        int size = settings.length;
        int most = -1;
        int least = 0;
        for (int told = 0; told < Math.pow(10, size); told++) {
            OilLane y = laid(text);
            int seen = 0;
            for (int k = size - 1, unit = (int) Math.pow(10, k); k >= 0; k--, unit /= 10) {
                int who = told / unit % 10;
                seen |= 1 << who;
                if (who < size) {
                    y.thrower(settings[who][0], settings[who][1], settings[who][2], settings[who][3], settings[who][4]);
                }
            }
            if (seen == (1 << size) - 1 && y.would(n, -1) > most) {
                most = y.would(n, -1);
                least = told;
            }
        }
        OilLane x = laid(text);
        int drops = x.oil(-1);
        for (int[] one : settings) {
            x.thrower(one[0], one[1], one[2], one[3], one[4]);
        }
        due("23 " + text + " by would()", least, figures);
        due("23 " + text + " order", x.order(n, 1), figures);
        due("23 " + text + " pins", x.order(n, 0), pins);
        due("23 " + text + " pins by would()", most, pins);
        due("23 nothing stays", x.oil(-1), drops);
        due("23 throwers stay", x.stands(0, 0), settings[0][0]);
        due("23 not thrown", x.came(0), OilLane.NO);
    }

    private static void cluesAndFits() {
        OilLane x = new OilLane();
        int[][] bad = {{-1, 0, 0, 0, 0}, {39, 0, 0, 0, 0}, {0, -21, 0, 0, 0}, {0, 21, 0, 0, 0}, {0, 0, -31, 0, 0},
            {0, 0, 31, 0, 0}, {0, 0, 0, -1, 0}, {0, 0, 0, 6, 0}, {0, 0, 0, 0, -2}, {0, 0, 0, 0, 390}};
        for (int[] b : bad) {
            due("24 BAD", x.clue(b[0], b[1], b[2], b[3], b[4]), OilLane.BAD);
        }
        due("25 no patterns", x.fits(), 0);
        x.pattern(0);
        tell(x, "lay 0 38 0 19 10;");
        x.pattern(1);
        tell(x, "lay 0 38 0 0 10;");
        x.pattern(3);
        due("25 no clues", x.fits(), 0b1011);
        // SPIN 6, SKIN 7: dry GRIP 70 adds 4, 2, 1 (105 + 4 + 6 + 18 * 7); behind one wet stretch it comes to 234
        due("24 first", x.clue(10, 0, 6, 5, 241), 1);
        due("25 the dry one", x.fits(), 0b0001);
        due("24 count", x.count(1), 1);

        x = new OilLane();
        x.pattern(0);
        tell(x, "lay 0 38 0 19 10;");
        x.pattern(2);
        // the first slides and takes nine; the second has GRIP 7 in two of these cells: 2 and 4, then 18 times 4
        x.lay(2);
        int fresh = 105;
        int second = 183;
        due("25 the first", x.tried(10, 0, 30, 5), fresh);
        x.shot(10, 0, 30, 5);
        due("25 the second", x.tried(10, 0, 30, 5), second);
        due("24 one", x.clue(10, 0, 30, 5, fresh), 1);
        due("24 two", x.clue(10, 0, 30, 5, second), 2);
        int drops = x.oil(-1);
        due("25 in that order", x.fits(), 0b0100);
        due("25 unchanged", x.oil(-1), drops);
        due("24 three", x.clue(0, -1, 0, 0, -1), 3);
        due("25 the gutter fits", x.fits(), 0b0100);
        due("24 four", x.clue(0, 0, 0, 0, 5), 4);
        due("24 five", x.clue(0, 0, 0, 0, 5), 5);
        due("25 all fit", x.fits(), 0b0100);
        due("24 six", x.clue(0, 0, 0, 0, 6), 6);
        due("25 the last does not", x.fits(), 0);
        due("24 seven", x.clue(0, 0, 0, 0, 5), OilLane.FULL);
        due("24 BAD ahead of FULL", x.clue(0, 0, 0, 0, 390), OilLane.BAD);
    }

    private static OilLane withTrunkPatterns() {
        OilLane x = new OilLane();
        String[] texts = {"lay 0 38 0 19 3;", "lay 5 33 0 12 9;", "lay 0 20 0 19 8;", ""};
        for (int p = 0; p < 4; p++) {
            tell(x, texts[p]);
            x.pattern(p);
        }
        x.scatter(0, 2, 0, 3);
        x.scatter(0, 2, 4, 3);
        return x;
    }

    /** Each of the four PATTERNS' greatest MEAN, by an object of its own: 160 MEANS are many of its 512 calls. */
    private static int[] greatest(int spin, int ball) {
        OilLane x = withTrunkPatterns();
        int[] found = new int[4];
        for (int p = 0; p < 4; p++) {
            x.lay(p);
            for (int board = 0; board < 39; board += 5) {
                for (int aim = -6; aim <= 6; aim += 3) {
                    found[p] = Math.max(found[p], x.mean(0, board, aim, spin, ball));
                }
            }
        }
        return found;
    }

    private static int addedBy(int set, int[][] of) {
        int sum = 0;
        for (int p = 0; p < 4; p++) {
            int found = 0;
            for (int ball = 0; ball < 6; ball++) {
                found = (set >> ball & 1) == 1 ? Math.max(found, of[ball][p]) : found;
            }
            sum += found;
        }
        return sum;
    }

    private static void trunk() {
        OilLane x = new OilLane();
        due("26 no patterns, one", x.trunk(1, 0, 0), 1);
        due("26 no patterns, two", x.trunk(2, 0, 0), 3);
        due("26 no patterns, three", x.trunk(3, 0, 0), 7);
        due("26 no patterns, added", x.trunk(3, 0, 1), 0);
        x = withTrunkPatterns();
        x.lay(1);
        int drops = x.oil(-1);
        for (int spin : new int[] {-30, -17, 23, 30}) {
            int[][] of = new int[6][];
            for (int ball = 0; ball < 6; ball++) {
                of[ball] = greatest(spin, ball);
            }
            for (int k = 1; k <= 3; k++) {
                int chosen = 0;
                int most = -1;
                for (int set = 0; set < 64; set++) {
                    if (Integer.bitCount(set) == k && addedBy(set, of) > most) {
                        most = addedBy(set, of);
                        chosen = set;
                    }
                }
                due("26 set of " + k + " by " + spin, x.trunk(k, spin, 0), chosen);
                due("26 added of " + k + " by " + spin, x.trunk(k, spin, 1), most);
            }
            due("26 unchanged", x.oil(-1), drops);
        }
        due("26 not thrown", x.came(0), OilLane.NO);
        int[][] bad = {{0, 0, 0}, {4, 0, 0}, {1, -31, 0}, {1, 31, 0}, {1, 0, -1}, {1, 0, 2}};
        for (int[] b : bad) {
            due("26 BAD", x.trunk(b[0], b[1], b[2]), OilLane.BAD);
        }
    }

    private static void spare() {
        OilLane x = slick();
        // PIN 9 at 285; from BOARD 10, AIM 6 comes to 225 and is at 243 in ROW 3; the first within 25 is BOARD 12: 245, 263
        due("27 falls", x.spare(512, 0, 0), 1);
        due("27 board", x.spare(512, 0, 1), 12);
        due("27 aim", x.spare(512, 0, 2), 6);
        due("27 none stand", x.spare(0, 0, 0), 0);
        due("27 none stand: the first board", x.spare(0, 0, 1), 0);
        due("27 none stand: the first aim", x.spare(0, 0, 2), -6);
        due("27 unchanged", x.oil(-1), 780 * 60);
        due("27 not thrown", x.came(0), OilLane.NO);
        int[][] bad = {{-1, 0, 0}, {1024, 0, 0}, {1, -1, 0}, {1, 6, 0}, {1, 0, -1}, {1, 0, 3}};
        for (int[] b : bad) {
            due("27 BAD", x.spare(b[0], b[1], b[2]), OilLane.NO);
        }
        // 6 and 9 stand far apart: one of them is all that falls, by the first that reaches either
        due("27 a wide split", x.spare(576, 0, 0), 1);
        due("27 its board", x.spare(576, 0, 1), x.spare(64, 0, 1));
        due("27 its aim", x.spare(576, 0, 2), x.spare(64, 0, 2));
    }

    private static void worth() {
        OilLane x = laid("lay 0 38 0 9 10;");
        due("28 none was thrown", x.worth(0), OilLane.NO);
        due("32 nothing asked", x.trace(), 0);
        x.shot(19, 0, 2, 5);
        // slides ten stretches, then GRIP 70 adds 1 once (TURN 2, then 0): 195 + 10; FILM 9 is left in nine of ten
        cameIs(x, "28", 205, 1, 0, 0, 10, 1, 1023);
        x.shot(19, 0, 0, 0);
        x.shot(20, 0, 2, 5);
        cameIs(x, "28 again", 215, 1, 0, 0, 10, 1, 1023);
        due("28 SHOT", x.worth(0), 10);
        due("32 1", x.trace(), 1);
        due("28 FLUSH", x.worth(1), 11);
        due("32 11", x.trace(), 12);
        due("28 HIGH", x.worth(2), 9);
        due("32 101", x.trace(), 113);
        due("28 SPLIT", x.worth(3), 18);
        due("32 1101", x.trace(), 1214);
        due("28 TAPPED", x.worth(4), 11);
        due("32 10011", x.trace(), 11225);
        due("28 BURNT", x.worth(5), 0);
        due("32 100001", x.trace(), 111226);
        due("28 -1", x.worth(-1), OilLane.NO);
        due("28 6", x.worth(6), OilLane.NO);
        due("32 refused ones leave nothing", x.trace(), 111226);
        x = slick();
        x.shot(0, -1, 0, 0);
        due("28 HIGH in the gutter", x.worth(2), -1);
        due("28 SPLIT in the gutter", x.worth(3), -2);
        due("28 TAPPED in the gutter", x.worth(4), 6);
        due("28 BURNT in the gutter", x.worth(5), -6);
    }

    private static void images() {
        OilLane x = laid("lay 0 38 0 19 10;");
        due("29 -1", x.keep(-1), OilLane.BAD);
        due("29 2", x.keep(2), OilLane.BAD);
        due("30 -1", x.back(-1), OilLane.BAD);
        due("30 2", x.back(2), OilLane.BAD);
        due("30 none was kept", x.back(1), OilLane.STATE);
        x.thrower(17, 1, 5, 0, 1);
        due("29 kept", x.keep(1), 7800);
        due("30 the other was not", x.back(0), OilLane.STATE);
        x.thrower(30, 0, 0, 0, 0);
        x.evening(1);
        x.ball(0, 0, 9);
        x.roll(5);
        x.clue(0, 0, 0, 0, 5);
        x.worth(0);
        tell(x, "abc");
        x.scatter(0, 2, 0, 3);
        due("29 the other, too", x.keep(0), 7800 - 18);
        due("30 back", x.back(1), 7800);
        due("30 one thrower", x.count(0), 1);
        due("30 where it stood", x.stands(0, 0), 17);
        due("30 none in a row", x.stands(0, 5), 0);
        due("30 the second is gone", x.stands(1, 0), OilLane.NO);
        due("30 a ball stays", x.ball(0, 0, 9), 9);
        due("30 the game stays", x.game(0), 1);
        due("30 clues stay", x.count(1), 1);
        due("30 the text stays", x.count(2), 3);
        due("30 the trace stays", x.trace(), 1);
        due("30 the latest stays", x.came(0), 305);
        due("30 the scatter stays", x.scatter(0, 0, 0, 0), 3);
        x.shot(5, 0, 0, 0);
        due("30 as often as one likes", x.back(1), 7800);
        due("30 the other", x.back(0), 7782);
        due("30 two throwers", x.count(0), 2);
        due("30 in a row", x.stands(0, 5), 1);
        due("30 where it moved", x.stands(0, 0), 15);
    }

    private static void counts() {
        OilLane x = new OilLane();
        x.thrower(0, 0, 0, 0, 0);
        x.thrower(0, 0, 0, 0, 0);
        x.clue(0, 0, 0, 0, 0);
        x.pattern(0);
        x.pattern(3);
        tell(x, "hello");
        due("31 throwers", x.count(0), 2);
        due("31 clues", x.count(1), 1);
        due("31 bytes", x.count(2), 5);
        due("31 patterns", x.count(3), 9);
        due("31 -1", x.count(-1), OilLane.BAD);
        due("31 4", x.count(4), OilLane.BAD);
    }

    private static void asReadmeTells() {
        OilLane x = new OilLane();
        due("README type", x.type(0x6C617920302033L, 7), 7);
        due("README type", x.type(0x3820302031392035L, 8), 15);
        due("README type", x.type(0x3B, 1), 16);
        due("README pattern", x.pattern(0), 1);
        due("README lay", x.lay(0), 3900);
        due("README shot", x.shot(22, 4, -9, 2), 10);
        due("README came", x.came(0), 215);
        due("README best", x.best(0, -5, 0), 100);
    }

    public static void main(String[] args) {
        newObject();
        type();
        clear();
        pattern();
        lay();
        dropsAndOil();
        ball();
        shot();
        cameAndTried();
        fall();
        games();
        scatter();
        meanAndBest();
        throwers();
        evenings();
        order();
        cluesAndFits();
        trunk();
        spare();
        worth();
        images();
        counts();
        asReadmeTells();
        System.out.println(wrong == 0 ? "all promises are as due" : wrong + " answers are not as due");
        if (wrong != 0) {
            System.exit(1);
        }
    }
}
