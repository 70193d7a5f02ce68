/** Bounds of a SHOT, of the GUTTER and of how PINS fall: a test for each sentence that names one. */
public final class ShotBoundsTest {
    private static final int ALL = 1023;

    // ---- what a SHOT may be

    private static void refused(OilLane x, int board, int aim, int spin, int ball) {
        String told = "(" + board + ", " + aim + ", " + spin + ", " + ball + ")";
        int drops = x.oil(-1);
        Due.is("shot" + told, x.shot(board, aim, spin, ball), Due.BAD);
        Due.is("tried" + told, x.tried(board, aim, spin, ball), Due.NO);
        Due.is("no oil is taken", x.oil(-1), drops);
    }

    private static void allowed(OilLane x, int board, int aim, int spin, int ball, int place) {
        String told = "(" + board + ", " + aim + ", " + spin + ", " + ball + ")";
        Due.is("tried" + told, x.tried(board, aim, spin, ball), place);
        Due.is("shot" + told + " is not refused", x.shot(board, aim, spin, ball) >= 0 ? 0 : -1, 0);
        Due.is("came(0) of shot" + told, x.came(0), place);
    }

    private static void fromBoards() {
        Due.sentence("2: A SHOT: from a BOARD (0 .. 38)");
        OilLane x = Due.slick();
        allowed(x, 0, 0, 0, 0, 5);
        allowed(x, 38, 0, 0, 0, 385);
        refused(x, -1, 0, 0, 0);
        refused(x, 39, 0, 0, 0);
        refused(x, Due.LOWEST, 0, 0, 0);
        refused(x, Due.HIGHEST, 0, 0, 0);
        Due.is("the latest stays", x.came(0), 385);
    }

    private static void aims() {
        Due.sentence("2: with an AIM (-20 .. 20)");
        OilLane x = Due.slick();
        allowed(x, 19, -20, 0, 0, -1);
        Due.is("came(1)", x.came(1), -20);
        allowed(x, 19, 20, 0, 0, -1);
        Due.is("came(1)", x.came(1), 20);
        refused(x, 19, -21, 0, 0);
        refused(x, 19, 21, 0, 0);
        refused(x, 19, Due.LOWEST, 0, 0);
        refused(x, 19, Due.HIGHEST, 0, 0);
        Due.is("the latest stays", x.came(1), 20);
    }

    private static void spins() {
        Due.sentence("2: a SPIN (-30 .. 30)");
        OilLane x = Due.slick();
        allowed(x, 19, 0, -30, 0, 195);
        Due.is("came(2)", x.came(2), -30);
        allowed(x, 19, 0, 30, 0, 195);
        Due.is("came(2)", x.came(2), 30);
        refused(x, 19, 0, -31, 0);
        refused(x, 19, 0, 31, 0);
        refused(x, 19, 0, Due.LOWEST, 0);
        refused(x, 19, 0, Due.HIGHEST, 0);
        Due.is("the latest stays", x.came(2), 30);
    }

    private static void balls() {
        Due.sentence("2: a BALL (0 .. 5)");
        OilLane x = Due.slickBut(19);
        // SKIN 2 and 7, SPIN 10: the dry last STRETCH adds 2 and 7
        allowed(x, 19, 0, 10, 0, 197);
        allowed(x, 21, 0, 10, 5, 222);
        refused(x, 19, 0, 0, -1);
        refused(x, 19, 0, 0, 6);
        refused(x, 19, 0, 0, Due.LOWEST);
        refused(x, 19, 0, 0, Due.HIGHEST);
        Due.is("the latest stays", x.came(0), 222);
    }

    private static void firstPlace() {
        Due.sentence("2: PLACE .. at first 10 times the BOARD and 5; SLANT v is AIM, TURN r is SPIN, FILM 0 at first");
        for (int board = 0; board < 39; board++) {
            OilLane x = new OilLane();
            x.shot(board, 0, 0, 0);
            Due.came("shot(" + board + ", 0, 0, 0)", x, 10 * board + 5, 0, 0, 0, 0, 0);
        }
        OilLane x = Due.slick();
        x.shot(1, 1, -7, 3);
        Due.came("shot(1, 1, -7, 3)", x, 35, 1, -7, 9, 20, 0);
        x = Due.laid("lay 19 19 18 19 1;");
        x.shot(19, 0, 0, 0);
        Due.is("FILM of two DROPS", x.came(3), 2);
        x.shot(19, 0, 0, 0);
        Due.came("FILM is 0 at first again", x, 195, 0, 0, 0, 0, 0);
        Due.is("nothing of it stays", x.oil(-1), 0);
    }

    /** One wet STRETCH, the second: where the ball took its DROP tells on which BOARD it was. */
    private static void takes(int board, int aim, int from) {
        OilLane x = Due.laid("lay 0 38 1 1 5;");
        x.shot(board, aim, 0, 0);
        int place = 10 * board + 5 + aim;
        for (int b = Math.max(0, from - 1); b <= Math.min(38, from + 1); b++) {
            Due.is("at " + place + ": drops(" + b + ", 1)", x.drops(b, 1), b == from ? 4 : 5);
        }
    }

    private static void boardBeneath() {
        Due.sentence("2: on BOARD p by 10 (rounded down)");
        takes(0, -5, 0);
        takes(0, 4, 0);
        takes(0, 5, 1);
        takes(19, -6, 18);
        takes(19, -5, 19);
        takes(19, 4, 19);
        takes(19, 5, 20);
        takes(38, -6, 37);
        takes(38, -5, 38);
        takes(38, 4, 38);
    }

    // ---- GRIP, SLANT, TURN

    /** What one STRETCH with so many DROPS (the others are slick) makes of a straight ball. */
    private static void bends(int skin, int drops, int spin, int slant, int turn) {
        String first = drops == 0 ? "" : "lay 0 38 0 0 " + drops + ";";
        OilLane x = Due.laid("lay 0 38 1 19 30;" + first);
        x.ball(0, 0, skin);
        x.shot(19, 0, spin, 0);
        String what = "SKIN " + skin + ", DROPS " + drops + ", SPIN " + spin;
        Due.is(what + ": SLANT", x.came(1), slant);
        Due.is(what + ": TURN", x.came(2), turn);
    }

    private static void grip() {
        Due.sentence("2: GRIP is SKIN times 10 less DROPS there (0 at least)");
        bends(9, 0, 20, 18, 18);
        bends(9, 1, 20, 16, 18);
        bends(9, 8, 20, 3, 20);
        bends(9, 9, 20, 1, 20);
        bends(9, 10, 20, 0, 20);
        bends(9, 11, 20, 0, 20);
        bends(9, 30, 30, 0, 30);
        bends(9, 30, -30, 0, -30);
        bends(1, 9, 30, 0, 30);
        OilLane x = Due.laid("lay 0 38 0 19 30;".repeat(4));
        x.ball(5, 0, 9);
        x.shot(19, 0, 30, 5);
        Due.came("99 DROPS", x, 195, 0, 30, 9, 20, 0);
    }

    private static void slides() {
        Due.sentence("2: It SLIDES in STRETCHES with GRIP 0");
        for (int drops = 8; drops <= 12; drops++) {
            for (int skin : new int[] {1, 9}) {
                OilLane x = Due.laid("lay 0 38 0 19 " + drops + ";");
                x.ball(2, 0, skin);
                x.shot(19, 0, 0, 2);
                Due.is("SKIN " + skin + ", DROPS " + drops, x.came(4), drops >= 10 ? 20 : 0);
            }
        }
        OilLane x = Due.laid("lay 0 38 0 6 9;lay 0 38 7 9 10;");
        x.shot(19, 0, 0, 0);
        Due.is("three of twenty", x.came(4), 3);
        x = Due.slick();
        x.shot(0, -6, 0, 0);
        Due.is("the STRETCH in which it came to the GUTTER, too", x.came(4), 1);
        x.shot(0, -6, 0, 0);
        Due.is("each SHOT's own", x.came(4), 1);
    }

    private static void slantRounds() {
        Due.sentence("2: v is more by r times GRIP by 100 (rounded toward 0)");
        bends(1, 0, 9, 0, 9);
        bends(1, 0, 10, 1, 10);
        bends(1, 0, 19, 1, 19);
        bends(1, 0, 20, 2, 20);
        bends(1, 0, -9, 0, -9);
        bends(1, 0, -10, -1, -10);
        bends(1, 0, -19, -1, -19);
        bends(1, 0, -20, -2, -20);
        // 99 by 100 is 0, 108 by 100 is 1
        bends(9, 9, 11, 0, 11);
        bends(9, 9, 12, 1, 12);
        bends(9, 9, -11, 0, -11);
        bends(9, 9, -12, -1, -12);
        bends(9, 0, 1, 0, 0);
        bends(9, 0, -1, 0, 0);
        bends(9, 0, 30, 27, 28);
        bends(9, 0, -30, -27, -28);
        bends(7, 0, 0, 0, 0);
    }

    /** The first STRETCH is dry; SKIN 8, so that SPIN adds 80 by 100 of itself. */
    private static void held(int board, int aim, int spin, int slant) {
        OilLane x = Due.slickBut(0);
        x.ball(0, 0, 8);
        x.shot(board, aim, spin, 0);
        Due.is("AIM " + aim + ", SPIN " + spin + ": SLANT", x.came(1), slant);
        Due.is("AIM " + aim + ", SPIN " + spin + ": HOOKED", x.came(5), 1);
    }

    private static void slantIsHeld() {
        Due.sentence("2: .. but no farther from 0 than 40");
        held(0, 20, 24, 39);
        held(0, 20, 25, 40);
        held(0, 20, 27, 40);
        held(0, 20, 30, 40);
        held(38, -20, -24, -39);
        held(38, -20, -25, -40);
        held(38, -20, -27, -40);
        held(38, -20, -30, -40);
        held(0, -20, 30, 4);
        held(38, 20, -30, -4);
    }

    private static void turnByOne() {
        Due.sentence("2: r comes nearer to 0 by 1, if GRIP is 20 at least");
        bends(9, 8, 20, 3, 20);
        bends(9, 8, -20, -3, -20);
        bends(2, 0, 20, 4, 19);
        bends(2, 0, -20, -4, -19);
        bends(4, 5, 20, 4, 19);
        bends(7, 7, 20, 4, 19);
        bends(2, 1, 20, 3, 20);
        bends(6, 7, 20, 3, 20);
        bends(9, 8, 1, 0, 1);
        bends(9, 8, -1, 0, -1);
        bends(2, 0, 1, 0, 0);
        bends(2, 0, -1, 0, 0);
    }

    private static void turnByTwo() {
        Due.sentence("2: r comes nearer to 0 .. by 2, if it is 60 at least");
        bends(7, 2, 20, 11, 19);
        bends(7, 2, -20, -11, -19);
        bends(6, 1, 20, 10, 19);
        bends(6, 0, 20, 12, 18);
        bends(6, 0, -20, -12, -18);
        bends(7, 1, 20, 12, 18);
        bends(9, 4, 20, 10, 19);
        bends(9, 3, 20, 12, 18);
        bends(9, 0, 20, 18, 18);
    }

    private static void turnEndsAtNone() {
        Due.sentence("2: (no farther than to 0)");
        bends(6, 0, 3, 1, 1);
        bends(6, 0, 2, 1, 0);
        bends(6, 0, 1, 0, 0);
        bends(6, 0, 0, 0, 0);
        bends(6, 0, -1, 0, 0);
        bends(6, 0, -2, -1, 0);
        bends(6, 0, -3, -1, -1);
        bends(2, 0, 1, 0, 0);
        bends(2, 0, -1, 0, 0);
        bends(2, 0, 0, 0, 0);
        OilLane x = new OilLane();
        x.shot(19, 0, 1, 5);
        Due.came("dry, SPIN 1", x, 195, 0, 0, 0, 0, 0);
        x.shot(19, 0, -1, 5);
        Due.came("dry, SPIN -1", x, 195, 0, 0, 0, 0, 0);
    }

    private static void hooks() {
        Due.sentence("2: It .. HOOKS in those in which v changes");
        OilLane x = new OilLane();
        x.ball(0, 0, 1);
        // GRIP 10: SPIN 9 never changes v, SPIN 10 does in each STRETCH: 1 + 2 + .. + 20
        x.shot(10, 0, 9, 0);
        Due.came("SPIN 9", x, 105, 0, 9, 0, 0, 0);
        x.shot(10, 0, 10, 0);
        Due.came("SPIN 10", x, 315, 20, 10, 0, 0, 20);
        x.ball(0, 0, 9);
        // 20 and 27 are held at 40, and there v stays, though r is 28, 26, ..; 405 is the GUTTER
        x.shot(0, 20, 30, 0);
        Due.came("held at 40", x, -1, 40, 10, 0, 0, 1);
        x.shot(38, -20, -30, 0);
        Due.came("held at -40", x, -1, -40, -10, 0, 0, 1);
        // in the STRETCH in which it comes to the GUTTER, too: 5 - 27 is beyond
        x.shot(0, 0, -30, 0);
        Due.came("into the GUTTER at once", x, -1, -27, -28, 0, 0, 1);
    }

    // ---- FILM

    private static void filmIsFull() {
        Due.sentence("2: Where there are DROPS, and FILM is below 9, one of these comes to FILM");
        for (int wet = 1; wet <= 20; wet++) {
            OilLane x = Due.laid("lay 19 19 0 " + (wet - 1) + " 2;");
            x.shot(19, 0, 0, 0);
            for (int stretch = 0; stretch < wet; stretch++) {
                Due.is(wet + " wet: drops(19, " + stretch + ")", x.drops(19, stretch), stretch < 9 ? 1 : 2);
            }
            int film = Math.min(9, wet);
            int left = Math.min(film, 20 - wet);
            Due.is(wet + " wet: FILM", x.came(3), film - left);
            Due.is(wet + " wet: all DROPS", x.oil(-1), 2 * wet - film + left);
        }
    }

    private static void filmStays() {
        Due.sentence("2: where there are none and FILM is above 0, one of FILM stays there");
        OilLane x = Due.laid("lay 19 19 2 4 1;");
        x.shot(19, 0, 0, 0);
        int[] want = {0, 0, 0, 0, 0, 1, 1, 1, 0, 0};
        for (int stretch = 0; stretch < want.length; stretch++) {
            Due.is("drops(19, " + stretch + ")", x.drops(19, stretch), want[stretch]);
        }
        Due.is("FILM", x.came(3), 0);
        Due.is("none is lost", x.oil(-1), 3);
        x = Due.laid("lay 19 19 18 18 1;");
        x.shot(19, 0, 0, 0);
        Due.is("left in the last STRETCH", x.drops(19, 19), 1);
        Due.is("FILM", x.came(3), 0);
        x = Due.laid("lay 19 19 19 19 1;");
        x.shot(19, 0, 0, 0);
        Due.is("taken in the last STRETCH", x.drops(19, 19), 0);
        Due.is("FILM", x.came(3), 1);
        x = new OilLane();
        x.shot(19, 0, 0, 0);
        Due.is("none of no FILM", x.oil(-1), 0);
    }

    // ---- the GUTTER

    private static void gutterInTheMidst() {
        Due.sentence("2: If it is below 0 or above 389, it is in the GUTTER: the SHOT ends so");
        // FILM tells in how many STRETCHES the ball was: at 0 and at 389 it goes on, at -1 and 390 it does not
        int[][] shots = {{0, -5, 2}, {0, -6, 1}, {38, 4, 2}, {38, 5, 1}, {0, -1, 6}, {38, 1, 5}, {0, -20, 1}, {38, 20, 1}};
        for (int[] s : shots) {
            OilLane x = Due.slick();
            String told = "shot(" + s[0] + ", " + s[1] + ", 7, 0)";
            Due.is(told, x.shot(s[0], s[1], 7, 0), 0);
            Due.came(told, x, -1, s[1], 7, s[2], s[2], 0);
            Due.is(told + ": PINS", x.came(6), 0);
            Due.is(told + ": oil", x.oil(-1), 780 * 60 - s[2]);
            Due.is(told + ": tried", x.tried(s[0], s[1], 7, 0), -1);
        }
    }

    private static void gutterAtTheEnd() {
        Due.sentence("2: If it is below 0 or above 389 (at ROW 0, behind the last STRETCH, too)");
        // the last STRETCH is dry: BALL 0 (GRIP 20) goes there by a fifth of its SPIN
        int[][] shots = {{0, -25, 0, 0}, {0, -30, -1, -1}, {38, 20, 389, 0}, {38, 25, -1, -1}};
        for (int[] s : shots) {
            OilLane x = Due.slickBut(19);
            String told = "(" + s[0] + ", 0, " + s[1] + ", 0)";
            Due.is("tried" + told, x.tried(s[0], 0, s[1], 0), s[2]);
            Due.is("shot" + told, x.shot(s[0], 0, s[1], 0), 0);
            Due.is("came(0) of shot" + told, x.came(0), s[2]);
            Due.is("came(1) of shot" + told, x.came(1), s[1] / 5);
            Due.is("came(3) of shot" + told, x.came(3), 8);
        }
    }

    private static void noPinsInTheGutter() {
        Due.sentence("Promise 9: PINS that fall (0 in the GUTTER)");
        OilLane x = Due.slick();
        Due.is("all fall", x.shot(19, 0, 0, 0), 10);
        Due.is("as bits", x.came(6), ALL);
        Due.is("the GUTTER", x.shot(0, -1, 0, 0), 0);
        Due.is("as bits", x.came(6), 0);
        Due.is("PLACE", x.came(0), -1);
        Due.is("worth(0)", x.worth(0), 0);
        Due.is("all fall again", x.shot(19, 0, 0, 0), 10);
        Due.is("beside them all", x.shot(0, 0, 0, 0), 0);
        Due.is("PLACE", x.came(0), 5);
    }

    // ---- came, tried

    private static void noneThrown() {
        Due.sentence("Promise 10: NO: BAD, or none was thrown");
        OilLane x = Due.slick();
        for (int what = -1; what <= 7; what++) {
            Due.is("came(" + what + ") of none", x.came(what), Due.NO);
        }
        x.tried(19, 0, 0, 0);
        x.mean(0, 19, 0, 0, 0);
        x.best(0, 0, 0);
        x.spare(ALL, 0, 0);
        x.fall(195, 0, 12, ALL);
        x.trunk(1, 0, 0);
        x.clue(19, 0, 0, 0, 195);
        x.fits();
        x.evening(1);
        x.shot(39, 0, 0, 0);
        Due.is("came(0): nothing of that was thrown", x.came(0), Due.NO);
        x.thrower(19, 0, 0, 0, 0);
        x.would(1, -1);
        x.order(1, 0);
        Due.is("came(0): TRIED is not thrown", x.came(0), Due.NO);
        x.shot(19, 0, 0, 0);
        Due.is("came(0): thrown", x.came(0), 195);
    }

    private static void whatCame() {
        Due.sentence("Promise 10: 0 PLACE .., 6 PINS that fell, as bits. NO: BAD");
        OilLane x = Due.slickBut(19);
        x.shot(20, 1, -10, 0);
        // 205, 20 times 1, and in the last STRETCH 2 less
        Due.came("shot(20, 1, -10, 0)", x, 223, -1, -9, 8, 19, 1);
        Due.is("came(6)", x.came(6), x.fall(223, -1, 12, ALL));
        for (int what : new int[] {-1, 7, Due.LOWEST, Due.HIGHEST}) {
            Due.is("came(" + what + ")", x.came(what), Due.NO);
        }
    }

    private static void triedLeavesAll() {
        Due.sentence("Promise 11: a SHOT that is tried (THE LANE is not changed)");
        OilLane x = Due.laid("lay 19 19 0 5 1;");
        x.shot(0, 0, 0, 0);
        for (int k = 0; k < 3; k++) {
            Due.is("tried", x.tried(19, 0, 0, 0), 195);
            Due.is("no DROP is taken", x.drops(19, 0), 1);
            Due.is("none is left", x.drops(19, 6), 0);
            Due.is("all", x.oil(-1), 6);
        }
        Due.is("the latest is the thrown one", x.came(0), 5);
    }

    // ---- PINS

    private static void fallRefuses() {
        Due.sentence("Promise 12: PLACE (0 .. 389), SLANT (-40 .. 40), WEIGHT (5 .. 16), a set (bits)");
        OilLane x = new OilLane();
        int[] good = {195, 0, 12, ALL};
        int[][] bounds = {{0, 389}, {-40, 40}, {5, 16}, {0, ALL}};
        for (int k = 0; k < 4; k++) {
            for (int v : new int[] {bounds[k][0] - 1, bounds[k][1] + 1, Due.LOWEST, Due.HIGHEST}) {
                int[] a = good.clone();
                a[k] = v;
                Due.is("fall with " + v + " as number " + k, x.fall(a[0], a[1], a[2], a[3]), Due.BAD);
            }
        }
        Due.is("PLACE 0", x.fall(0, 0, 12, ALL), 0);
        Due.is("PLACE 389", x.fall(389, 0, 12, ALL), 0);
        // the ball is at 275 in ROW 3 by 40 (155 + 120), at 115 by -40
        Due.is("SLANT 40", x.fall(155, 40, 12, Due.set(9)), Due.set(9));
        Due.is("SLANT -40", x.fall(235, -40, 12, Due.set(6)), Due.set(6));
        Due.is("WEIGHT 5", x.fall(195, 0, 5, ALL), ALL);
        Due.is("WEIGHT 16", x.fall(195, 0, 16, ALL), ALL);
        Due.is("no PIN", x.fall(195, 0, 12, 0), 0);
        Due.is("all PINS", x.fall(195, 0, 12, ALL), ALL);
    }

    private static void within() {
        Due.sentence("2: each PIN that stands there within 25 of the ball; PINS at tenths 195; 165, 225; 135, 195, 255; ..");
        int[] tenths = {195, 165, 225, 135, 195, 255, 105, 165, 225, 285};
        int[] rows = {0, 1, 1, 2, 2, 2, 3, 3, 3, 3};
        OilLane x = new OilLane();
        for (int pin = 0; pin < 10; pin++) {
            for (int slant : new int[] {0, 7, -7}) {
                int straight = tenths[pin] - rows[pin] * slant;
                int alone = Due.set(pin);
                String told = "PIN " + pin + ", SLANT " + slant + ", ";
                Due.is(told + "25 less", x.fall(straight - 25, slant, 12, alone), alone);
                Due.is(told + "26 less", x.fall(straight - 26, slant, 12, alone), 0);
                Due.is(told + "25 more", x.fall(straight + 25, slant, 12, alone), alone);
                Due.is(told + "26 more", x.fall(straight + 26, slant, 12, alone), 0);
            }
        }
    }

    private static void onlyWhatStands() {
        Due.sentence("2: each PIN that stands there; .. falls when its ROW comes, if it stands");
        OilLane x = new OilLane();
        for (int pin = 0; pin < 10; pin++) {
            int others = ALL & ~Due.set(pin);
            Due.is("all but " + pin, x.fall(195, 0, 12, others) & Due.set(pin), 0);
        }
        // 0 hits 2, 2 hits 5, 5 hits 9, while the ball goes to the other side; what is gone hits nothing
        Due.is("0, 2, 5, 9", x.fall(190, -40, 12, Due.set(0, 2, 5, 9)), Due.set(0, 2, 5, 9));
        Due.is("0, 5, 9", x.fall(190, -40, 12, Due.set(0, 5, 9)), Due.set(0));
        Due.is("0, 2, 9", x.fall(190, -40, 12, Due.set(0, 2, 9)), Due.set(0, 2));
        Due.is("2, 5, 9", x.fall(190, -40, 12, Due.set(2, 5, 9)), 0);
    }

    private static void whichNext() {
        Due.sentence("2: OFF above 4 HITS the PIN 30 more in the next ROW, with OFF below -4 that 30 less, else both");
        OilLane x = new OilLane();
        for (int off = -8; off <= 8; off++) {
            int place = 195 - off;
            // by 40 the ball goes to PIN 2 itself, so what becomes of PIN 1 is by PIN 0; by -40 the other way round
            Due.is("OFF " + off + ": 30 less", x.fall(place, 40, 12, Due.set(0, 1)), off > 4 ? 1 : 3);
            Due.is("OFF " + off + ": 30 more", x.fall(place, -40, 12, Due.set(0, 2)), off < -4 ? 1 : 5);
        }
    }

    private static void nextOfEachPin() {
        Due.sentence("2: HITS the PIN 30 more in the next ROW, .. that 30 less (from each PIN)");
        OilLane x = new OilLane();
        int[] tenths = {195, 165, 225, 135, 195, 255};
        int[] rows = {0, 1, 1, 2, 2, 2};
        int[] less = {1, 3, 4, 6, 7, 8};
        for (int pin = 0; pin < 6; pin++) {
            // OFF 5 by the ball, which then goes on to 30 less; OFF -5 the other way round (WEIGHT 16: it is not moved)
            int right = tenths[pin] - 5 + 25 * rows[pin];
            int left = tenths[pin] + 5 - 25 * rows[pin];
            int three = Due.set(pin, less[pin], less[pin] + 1);
            Due.is("30 more than " + pin, x.fall(right, -25, 16, three & ~Due.set(less[pin])), Due.set(pin, less[pin] + 1));
            Due.is("30 less than " + pin, x.fall(left, 25, 16, three & ~Due.set(less[pin] + 1)), Due.set(pin, less[pin]));
        }
    }

    private static void lastRow() {
        Due.sentence("2: PINS 0 .. 9 stand in four ROWS: PINS of the last hit none");
        OilLane x = new OilLane();
        for (int place = 0; place <= 389; place++) {
            int fell = x.fall(place, 0, 12, Due.set(6, 7, 8, 9));
            Due.is("at " + place + ", one of the last ROW at most", Due.pins(fell) <= 1 && fell <= ALL ? 0 : 1, 0);
        }
        Due.is("PIN 9 is the last", x.fall(285, 0, 12, ALL) & Due.set(9), Due.set(9));
    }

    /** PIN 0 moves the ball as told; the ball then comes to ROW 1 at just 25 from a PIN with one SLANT, at 26 with the next. */
    private static void moves(int place, int weight, int pin, int slant, int beyond) {
        OilLane x = new OilLane();
        int both = Due.set(0, pin);
        String told = "at " + place + ", WEIGHT " + weight;
        Due.is(told + ", SLANT " + slant, x.fall(place, slant, weight, both), both);
        Due.is(told + ", SLANT " + beyond, x.fall(place, beyond, weight, both), 1);
    }

    private static void theBallIsMoved() {
        Due.sentence("2: the ball is then less by (OFF by 5, times 12) by WEIGHT (both rounded toward 0)");
        // OFF 9 and WEIGHT 16: 12 by 16 is 0; OFF 10: 24 by 16 is 1; OFF 24 and WEIGHT 5: 48 by 5 is 9; OFF 25: 60 by 5 is 12
        moves(186, 16, 1, 4, 5);
        moves(185, 16, 1, 6, 7);
        moves(171, 5, 1, 28, 29);
        moves(170, 5, 1, 32, 33);
        moves(170, 16, 1, 23, 24);
        moves(190, 12, 1, 1, 2);
        moves(190, 5, 1, 2, 3);
        // the same from the other side: rounded toward 0, not down
        moves(204, 16, 2, -4, -5);
        moves(205, 16, 2, -6, -7);
        moves(219, 5, 2, -28, -29);
        moves(220, 5, 2, -32, -33);
        moves(220, 16, 2, -23, -24);
        moves(200, 12, 2, -1, -2);
        moves(200, 5, 2, -2, -3);
    }

    private static void asItIsThen() {
        Due.sentence("2: (its OFF: its tenths less the ball's, as it is then), from the least on");
        OilLane x = new OilLane();
        // PIN 1 at 165 with OFF -25 moves the ball from 190 by 12 (WEIGHT 5), 10 (6), 8 (7): PIN 2 at 225 is 23, 25, 27 off
        Due.is("WEIGHT 5", x.fall(190, 0, 5, Due.set(1, 2)), Due.set(1, 2));
        Due.is("WEIGHT 6", x.fall(190, 0, 6, Due.set(1, 2)), Due.set(1, 2));
        Due.is("WEIGHT 7", x.fall(190, 0, 7, Due.set(1, 2)), Due.set(1));
        // PIN 2 at 225 with OFF 25 moves the ball from 200 to 188, but PIN 1 was looked at ahead of it
        Due.is("not back to the least", x.fall(200, 0, 5, Due.set(1, 2)), Due.set(2));
    }

    private static void theBallsOffAlone() {
        Due.sentence("2: what the ball felled has the ball's OFF alone");
        OilLane x = new OilLane();
        // PIN 0 (OFF 4) hits 1; the ball fells 1 with OFF -7, so it hits 3 and not 4; with OFF -4 it hits both
        Due.is("OFF -7", x.fall(191, -19, 12, Due.set(0, 1, 4)), Due.set(0, 1));
        Due.is("OFF -5", x.fall(191, -21, 12, Due.set(0, 1, 4)), Due.set(0, 1));
        Due.is("OFF -4", x.fall(191, -22, 12, Due.set(0, 1, 4)), Due.set(0, 1, 4));
        // the same from the other side: 0 (OFF -4) hits 2; the ball fells 2 with OFF 7, 5, 4
        Due.is("OFF 7", x.fall(199, 19, 12, Due.set(0, 2, 4)), Due.set(0, 2));
        Due.is("OFF 5", x.fall(199, 21, 12, Due.set(0, 2, 4)), Due.set(0, 2));
        Due.is("OFF 4", x.fall(199, 22, 12, Due.set(0, 2, 4)), Due.set(0, 2, 4));
    }

    private static void theFirstThatDid() {
        Due.sentence("2: gets the OFF of that one (of several: of the first that did)");
        OilLane x = new OilLane();
        // 0 (OFF 4) hits 1 and 2; the ball fells 1 (OFF 14), which hits 4 ahead of 2: 4 hits 8, not 7
        Due.is("1 ahead of 2", x.fall(191, -40, 12, Due.set(0, 1, 2, 4, 7, 8)), Due.set(0, 1, 2, 4, 8));
        Due.is("2 alone", x.fall(191, -40, 12, Due.set(0, 2, 4, 7, 8)), Due.set(0, 2, 4, 7, 8));
        Due.is("1 alone", x.fall(191, -40, 12, Due.set(0, 1, 4, 7, 8)), Due.set(0, 1, 4, 8));
    }

    private static void ballAheadOfPins() {
        Due.sentence("2: (In each ROW first what the ball hits, then what PINS of the ROW ahead hit, from the least on)");
        OilLane x = new OilLane();
        // 0 (OFF -4) hits 1 and 2; the ball fells 2 first (OFF -14), which hits 4 ahead of 1: 4 hits 7, not 8
        Due.is("2 by the ball ahead of 1", x.fall(199, 40, 12, Due.set(0, 1, 2, 4, 7, 8)), Due.set(0, 1, 2, 4, 7));
        Due.is("1 alone", x.fall(199, 40, 12, Due.set(0, 1, 4, 7, 8)), Due.set(0, 1, 4, 7, 8));
    }

    private static void moreByTheSlant() {
        Due.sentence("2: To each next ROW the ball is more by v");
        OilLane x = new OilLane();
        for (int slant = -40; slant <= 40; slant++) {
            for (int row = 0; row < 4; row++) {
                int pin = new int[] {0, 2, 4, 7}[row];
                int tenths = new int[] {195, 225, 195, 165}[row];
                int place = tenths - 25 - row * slant;
                if (place >= 1 && place <= 389) {
                    String told = "PIN " + pin + ", SLANT " + slant;
                    Due.is(told, new OilLane().fall(place, slant, 12, Due.set(pin)), Due.set(pin));
                    Due.is(told + ", 1 less", new OilLane().fall(place - 1, slant, 12, Due.set(pin)), 0);
                }
            }
        }
        Due.is("ROW 0 at p", x.fall(195, 40, 12, Due.set(0)), 1);
        Due.is("ROW 0 at p", x.fall(195, -40, 12, Due.set(0)), 1);
    }

    public static void main(String[] args) {
        fromBoards();
        aims();
        spins();
        balls();
        firstPlace();
        boardBeneath();
        grip();
        slides();
        slantRounds();
        slantIsHeld();
        turnByOne();
        turnByTwo();
        turnEndsAtNone();
        hooks();
        filmIsFull();
        filmStays();
        gutterInTheMidst();
        gutterAtTheEnd();
        noPinsInTheGutter();
        noneThrown();
        whatCame();
        triedLeavesAll();
        fallRefuses();
        within();
        onlyWhatStands();
        whichNext();
        nextOfEachPin();
        lastRow();
        theBallIsMoved();
        asItIsThen();
        theBallsOffAlone();
        theFirstThatDid();
        ballAheadOfPins();
        moreByTheSlant();
        Due.end();
    }
}
