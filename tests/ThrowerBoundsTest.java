/** Bounds of THROWERS, of EVENINGS and of ORDER: a test for each sentence that names one. */
public final class ThrowerBoundsTest {
    private static final String SLICK = "lay 0 38 0 19 30;lay 0 38 0 19 30;";

    private static OilLane with(OilLane x, int[]... throwers) {
        for (int[] t : throwers) {
            x.thrower(t[0], t[1], t[2], t[3], t[4]);
        }
        return x;
    }

    // ---- what a THROWER may be

    private static void told() {
        Due.sentence("Promise 19: A THROWER (BOARD 0 .. 38, AIM -20 .. 20, SPIN -30 .. 30, BALL 0 .. 5, RULE 0 .. 2): the number. BAD");
        int[][] bounds = {{0, 38}, {-20, 20}, {-30, 30}, {0, 5}, {0, 2}};
        OilLane x = new OilLane();
        for (int k = 0; k < 5; k++) {
            for (int v : new int[] {bounds[k][0] - 1, bounds[k][1] + 1, Due.LOWEST, Due.HIGHEST}) {
                int[] a = {19, 0, 0, 0, 0};
                a[k] = v;
                Due.is("thrower with " + v + " as number " + k, x.thrower(a[0], a[1], a[2], a[3], a[4]), Due.BAD);
                Due.is("none came", x.count(0), 0);
            }
        }
        Due.is("the least of all", x.thrower(0, -20, -30, 0, 0), 0);
        Due.is("the most of all", x.thrower(38, 20, 30, 5, 2), 1);
        int[][] want = {{0, -20, -30, 0, 0, 0}, {38, 20, 30, 5, 2, 0}};
        for (int t = 0; t < 2; t++) {
            for (int what = 0; what < 6; what++) {
                Due.is("stands(" + t + ", " + what + ")", x.stands(t, what), want[t][what]);
            }
        }
    }

    private static void fourAtMost() {
        Due.sentence("4: THROWERS 0 .. (4 at most, as they come)");
        OilLane x = new OilLane();
        for (int t = 0; t < 4; t++) {
            Due.is("count(0)", x.count(0), t);
            Due.is("stands(" + t + ", 0) of none", x.stands(t, 0), Due.NO);
            Due.is("thrower " + t, x.thrower(10 + t, 0, 0, 0, 0), t);
            Due.is("stands(" + t + ", 0)", x.stands(t, 0), 10 + t);
        }
        Due.is("a fifth", x.thrower(20, 0, 0, 0, 0), Due.FULL);
        Due.is("count(0)", x.count(0), 4);
        for (int t = 0; t < 4; t++) {
            Due.is("stands(" + t + ", 0) still", x.stands(t, 0), 10 + t);
        }
        Due.is("stands(4, 0)", x.stands(4, 0), Due.NO);
    }

    private static void badAheadOfFull() {
        Due.sentence("Refused, the first of these: BAD ahead of FULL (thrower)");
        int[] one = {19, 0, 0, 0, 0};
        OilLane x = with(new OilLane(), one, one, one, one);
        Due.is("BOARD 39", x.thrower(39, 0, 0, 0, 0), Due.BAD);
        Due.is("AIM 21", x.thrower(0, 21, 0, 0, 0), Due.BAD);
        Due.is("SPIN 31", x.thrower(0, 0, 31, 0, 0), Due.BAD);
        Due.is("BALL 6", x.thrower(0, 0, 0, 6, 0), Due.BAD);
        Due.is("RULE 3", x.thrower(0, 0, 0, 0, 3), Due.BAD);
        Due.is("RULE 2", x.thrower(0, 0, 0, 0, 2), Due.FULL);
    }

    private static void stands() {
        Due.sentence("Promise 20: Of a THROWER: 0 BOARD .. 5 how many HIGH or LIGHT ones in a row. NO: BAD");
        OilLane x = with(new OilLane(), new int[] {1, 2, 3, 4, 1}, new int[] {5, 6, 7, 3, 2});
        for (int v : new int[] {-1, 2, 3, 4, Due.LOWEST, Due.HIGHEST}) {
            Due.is("stands(" + v + ", 0)", x.stands(v, 0), Due.NO);
        }
        for (int v : new int[] {-1, 6, Due.LOWEST, Due.HIGHEST}) {
            Due.is("stands(0, " + v + ")", x.stands(0, v), Due.NO);
            Due.is("stands(1, " + v + ")", x.stands(1, v), Due.NO);
        }
        Due.is("stands(1, 0)", x.stands(1, 0), 5);
        Due.is("stands(0, 5)", x.stands(0, 5), 0);
    }

    // ---- HIGH, LIGHT

    /** One SHOT with RULE 0: where it came, and whether it was HIGH or LIGHT. */
    private static void comes(OilLane x, int board, int aim, int spin, int place, int slant, boolean counts) {
        x.thrower(board, aim, spin, 0, 0);
        x.evening(1);
        String told = "from " + board + ", AIM " + aim + ", SPIN " + spin;
        Due.is(told + ": PLACE", x.came(0), place);
        Due.is(told + ": SLANT", x.came(1), slant);
        Due.is(told + ": in a row", x.stands(0, 5), counts ? 1 : 0);
        Due.is(told + ": RULE 0 stays", x.stands(0, 0), board);
        Due.is(told + ": with its BALL", x.stands(0, 3), 0);
    }

    private static void high() {
        Due.sentence("4: HIGH: PLACE at ROW 0 is beyond 195 on the side to which its last SLANT goes, or just there");
        // the last STRETCH is dry: BALL 0 (GRIP 20) goes there by a fifth of its SPIN
        comes(Due.slickBut(19), 15, 2, -5, 194, 1, false);
        comes(Due.slickBut(19), 15, 2, 0, 195, 2, true);
        comes(Due.slickBut(19), 15, 2, 5, 196, 3, true);
        comes(Due.slickBut(19), 23, -2, 5, 196, -1, false);
        comes(Due.slickBut(19), 23, -2, 0, 195, -2, true);
        comes(Due.slickBut(19), 23, -2, -5, 194, -3, true);
        comes(Due.slick(), 36, 1, 0, 385, 1, true);
        comes(Due.slick(), 2, -1, 0, 5, -1, true);
    }

    private static void light() {
        Due.sentence("4: LIGHT: 35 tenths or more ahead of it");
        comes(Due.slickBut(19), 9, 3, 30, 161, 9, false);
        comes(Due.slickBut(19), 9, 3, 25, 160, 8, true);
        comes(Due.slickBut(19), 9, 3, 20, 159, 7, true);
        comes(Due.slickBut(19), 29, -3, -30, 229, -9, false);
        comes(Due.slickBut(19), 29, -3, -25, 230, -8, true);
        comes(Due.slickBut(19), 29, -3, -20, 231, -7, true);
        comes(Due.slick(), 0, 1, 0, 25, 1, true);
        comes(Due.slick(), 38, -1, 0, 365, -1, true);
    }

    private static void lastSlant() {
        Due.sentence("4: the side to which its last SLANT goes (not its AIM)");
        // AIM 1, but SPIN -10 makes it -1 in the last STRETCH: 19 more, then 1 less
        comes(Due.slickBut(19), 18, 1, -10, 203, -1, false);
        comes(Due.slickBut(19), 17, 1, -10, 193, -1, true);
        comes(Due.slickBut(19), 21, 1, -10, 233, -1, true);
        comes(Due.slickBut(19), 13, 1, -10, 153, -1, true);
        comes(Due.slickBut(19), 20, -1, 10, 187, 1, false);
        comes(Due.slickBut(19), 21, -1, 10, 197, 1, true);
        comes(Due.slickBut(19), 17, -1, 10, 157, 1, true);
    }

    private static void slantNone() {
        Due.sentence("4: with SLANT 0 .. it is neither");
        comes(Due.slick(), 19, 0, 0, 195, 0, false);
        comes(Due.slick(), 0, 0, 0, 5, 0, false);
        comes(Due.slick(), 38, 0, 0, 385, 0, false);
        comes(Due.slickBut(19), 18, 1, -5, 204, 0, false);
        comes(Due.slickBut(19), 13, 1, -5, 154, 0, false);
        comes(Due.slickBut(19), 24, -1, 5, 226, 0, false);
    }

    private static void gutter() {
        Due.sentence("4: in the GUTTER it is neither");
        comes(Due.slick(), 0, -1, 0, -1, -1, false);
        comes(Due.slick(), 0, -20, 0, -1, -20, false);
        comes(Due.slick(), 38, 1, 0, -1, 1, false);
        comes(Due.slick(), 38, 20, 0, -1, 20, false);
        OilLane x = with(Due.slick(), new int[] {0, -1, 5, 2, 1}, new int[] {0, -1, 5, 2, 2});
        x.evening(4);
        Due.is("RULE 1 doesn't move", x.stands(0, 0), 0);
        Due.is("RULE 2 keeps its BALL", x.stands(1, 3), 2);
    }

    // ---- RULE 1

    private static void moves(int board, int aim, int spin, int to) {
        OilLane x = with(Due.slick(), new int[] {board, aim, spin, 5, 1});
        x.evening(1);
        String told = "from " + board + ", AIM " + aim + ", SPIN " + spin;
        Due.is(told, x.stands(0, 0), to);
        Due.is(told + ": AIM stays", x.stands(0, 1), aim);
        Due.is(told + ": SPIN stays", x.stands(0, 2), spin);
        Due.is(told + ": BALL stays", x.stands(0, 3), 5);
    }

    private static void againstItsSide() {
        Due.sentence("4: 1 moves 2 BOARDS against its SPIN's side behind a SHOT that came HIGH");
        moves(17, 1, 1, 15);
        moves(17, 1, 30, 15);
        moves(17, 1, -1, 19);
        moves(21, -1, 1, 19);
        moves(21, -1, -1, 23);
        moves(16, 1, 1, 16);
        moves(22, -1, 1, 22);
    }

    private static void towardItsSide() {
        Due.sentence("4: 1 toward it behind one that came LIGHT");
        moves(13, 1, 1, 14);
        moves(13, 1, -1, 12);
        moves(25, -1, 1, 26);
        moves(25, -1, -1, 24);
        moves(14, 1, 1, 14);
        moves(24, -1, -1, 24);
    }

    private static void noSide() {
        Due.sentence("4: the SPIN's side: more, if it is above 0, less below, none at 0");
        moves(17, 1, 0, 17);
        moves(13, 1, 0, 13);
        moves(21, -1, 0, 21);
        moves(25, -1, 0, 25);
        OilLane x = with(Due.slick(), new int[] {17, 1, 0, 5, 1});
        x.evening(3);
        Due.is("it counts all the same", x.stands(0, 5), 3);
    }

    private static void noFarther() {
        Due.sentence("4: BOARDS 0 .. 38: no farther");
        moves(3, 10, 5, 1);
        moves(2, 10, 5, 0);
        moves(1, 10, 5, 0);
        moves(0, 10, 5, 0);
        moves(35, -10, -5, 37);
        moves(36, -10, -5, 38);
        moves(37, -10, -5, 38);
        moves(38, -10, -5, 38);
        moves(1, 1, -5, 0);
        moves(0, 1, -5, 0);
        moves(37, -1, 5, 38);
        moves(38, -1, 5, 38);
    }

    // ---- RULE 2, in a row

    /** On lane 0 it comes HIGH (195, SLANT 1), on lane 1 neither (the dry first STRETCH takes SLANT to 0). */
    private static OilLane highOrNeither(int rule) {
        OilLane x = Due.laid(SLICK);
        Due.tell(x, 1, SLICK + "strip 0 0;");
        return with(x, new int[] {17, 1, -2, 5, rule});
    }

    private static void shotOn(OilLane x, int lane, int inRow, int ball) {
        x.lay(lane);
        x.evening(1);
        Due.is("on lane " + lane + ": in a row", x.stands(0, 5), inRow);
        Due.is("on lane " + lane + ": BALL", x.stands(0, 3), ball);
    }

    private static void twoInARow() {
        Due.sentence("4: 2 takes the next BALL (5: 0 next) behind two such in a row");
        OilLane x = highOrNeither(2);
        shotOn(x, 0, 1, 5);
        shotOn(x, 1, 0, 5);
        shotOn(x, 0, 1, 5);
        shotOn(x, 0, 0, 0);
        shotOn(x, 0, 1, 0);
        shotOn(x, 0, 0, 1);
        Due.is("its BOARD stays", x.stands(0, 0), 17);
        for (int ball = 0; ball < 6; ball++) {
            x = with(Due.slick(), new int[] {17, 1, 0, ball, 2});
            x.evening(1);
            Due.is("behind one, BALL", x.stands(0, 3), ball);
            x.evening(1);
            Due.is("behind two, BALL", x.stands(0, 3), ball == 5 ? 0 : ball + 1);
            x.evening(10);
            Due.is("behind twelve, BALL again", x.stands(0, 3), ball);
        }
    }

    private static void highAndLight() {
        Due.sentence("4: behind two such in a row (a HIGH and a LIGHT one are two)");
        // lane 0: 135 and 20 is LIGHT; lane 1: its dry first STRETCH makes SLANT 4 of 1, and 215 is HIGH
        for (int first = 0; first < 2; first++) {
            OilLane x = Due.tell(Due.tell(new OilLane(), 0, SLICK), 1, SLICK + "strip 0 0;");
            with(x, new int[] {13, 1, 5, 5, 2});
            shotOn(x, first, 1, 5);
            Due.is("PLACE", x.came(0), first == 0 ? 155 : 215);
            x.lay(1 - first);
            x.evening(1);
            Due.is("PLACE", x.came(0), first == 0 ? 215 : 155);
            Due.is("the next BALL", x.stands(0, 3), 0);
            Due.is("from 0 again", x.stands(0, 5), 0);
        }
    }

    private static void ruleTwoAlone() {
        Due.sentence("4: behind two in a row it counts from 0 again, with RULE 2 alone");
        for (int rule = 0; rule < 2; rule++) {
            OilLane x = with(Due.slick(), new int[] {17, 1, 0, 5, rule});
            for (int n = 1; n <= 20; n++) {
                x.evening(1);
                Due.is("RULE " + rule + ", behind " + n, x.stands(0, 5), n);
            }
            x.evening(20);
            Due.is("RULE " + rule + ", behind 40", x.stands(0, 5), 40);
            Due.is("RULE " + rule + ": BALL", x.stands(0, 3), 5);
        }
        OilLane x = with(Due.slick(), new int[] {17, 1, 0, 5, 2});
        for (int n = 1; n <= 20; n++) {
            x.evening(1);
            Due.is("RULE 2, behind " + n, x.stands(0, 5), n % 2);
        }
    }

    private static void goesOnFromTheRow() {
        Due.sentence("4: TRIED: the same (from as many in a row as there are)");
        // SLANT 1 comes HIGH with each BALL: the one that is in a row makes the next round the second
        for (int ahead = 0; ahead < 2; ahead++) {
            OilLane x = Due.slickBut(19);
            with(x, new int[] {17, 1, 5, 4, 2});
            x.ball(5, 0, 9);
            x.ball(0, 0, 1);
            for (int n = 0; n < ahead; n++) {
                x.evening(1);
            }
            Due.is("in a row", x.stands(0, 5), ahead);
            int tried = x.would(4, 0);
            Due.is("would and order", x.order(4, 0), tried);
            Due.is("evening", x.evening(4), tried);
            Due.is("BALL behind " + (4 + ahead), x.stands(0, 3), 0);
            Due.is("in a row then", x.stands(0, 5), ahead);
        }
    }

    private static void rowEnds() {
        Due.sentence("Promise 20: 5 how many HIGH or LIGHT ones in a row (one that is neither ends it, with each RULE)");
        for (int rule = 0; rule < 2; rule++) {
            OilLane x = highOrNeither(rule);
            x.evening(1);
            Due.is("RULE " + rule + ": HIGH", x.stands(0, 5), 1);
            x.lay(1);
            if (rule == 1) {
                // it moved to 19, and comes to 195 with SLANT 0
                Due.is("RULE 1 moved", x.stands(0, 0), 19);
            }
            x.evening(1);
            Due.is("RULE " + rule + ": neither", x.stands(0, 5), 0);
            Due.is("RULE " + rule + ": SLANT", x.came(1), 0);
        }
    }

    // ---- EVENINGS

    private static void rounds() {
        Due.sentence("4: AN EVENING of n rounds (1 .. 20)");
        OilLane x = with(Due.slick(), new int[] {19, 0, 0, 0, 0}, new int[] {19, 0, 0, 1, 0});
        for (int n : new int[] {0, 21, -1, Due.LOWEST, Due.HIGHEST}) {
            Due.is("evening(" + n + ")", x.evening(n), Due.BAD);
            Due.is("would(" + n + ", -1)", x.would(n, -1), Due.BAD);
            Due.is("would(" + n + ", 0)", x.would(n, 0), Due.BAD);
            Due.is("order(" + n + ", 0)", x.order(n, 0), Due.BAD);
            Due.is("order(" + n + ", 1)", x.order(n, 1), Due.BAD);
        }
        Due.is("none was thrown", x.came(0), Due.NO);
        Due.is("no oil was taken", x.oil(-1), 780 * 60);
        Due.is("would(1, -1)", x.would(1, -1), 20);
        Due.is("would(20, -1)", x.would(20, -1), 400);
        Due.is("order(1, 0)", x.order(1, 0), 20);
        Due.is("order(1, 1)", x.order(1, 1), 1);
        Due.is("order(20, 0)", x.order(20, 0), 400);
        Due.is("evening(1)", x.evening(1), 20);
        Due.is("evening(20)", x.evening(20), 400);
        Due.is("each SHOT took nine", x.oil(-1), 780 * 60 - 42 * 9);
    }

    private static void noThrowers() {
        Due.sentence("Promise 21, 22: all PINS of all (of none: 0; BAD if there is no such THROWER)");
        OilLane x = Due.slick();
        Due.is("evening(1)", x.evening(1), 0);
        Due.is("evening(20)", x.evening(20), 0);
        Due.is("would(1, -1)", x.would(1, -1), 0);
        Due.is("would(1, 0)", x.would(1, 0), Due.BAD);
        Due.is("evening(0)", x.evening(0), Due.BAD);
        Due.is("would(0, -1)", x.would(0, -1), Due.BAD);
        Due.is("nothing was thrown", x.came(0), Due.NO);
    }

    private static OilLane four() {
        return with(Due.laid("lay 6 29 0 17 7;"),
            new int[] {25, 5, 12, 3, 0}, new int[] {23, 1, -1, 0, 1}, new int[] {28, -1, -7, 3, 2}, new int[] {27, -1, 8, 5, 2});
    }

    private static void whose() {
        Due.sentence("Promise 22: TRIED: PINS of a THROWER (t = -1: of all). BAD");
        OilLane x = four();
        for (int t : new int[] {-2, 4, Due.LOWEST, Due.HIGHEST}) {
            Due.is("would(3, " + t + ")", x.would(3, t), Due.BAD);
        }
        int all = 0;
        for (int t = 0; t < 4; t++) {
            int pins = x.would(3, t);
            all += pins;
            Due.is("would(3, " + t + ") again", x.would(3, t), pins);
        }
        Due.is("would(3, -1)", x.would(3, -1), all);
        Due.is("evening(3)", four().evening(3), all);
        x = with(Due.slick(), new int[] {19, 0, 0, 0, 0}, new int[] {0, 0, 0, 0, 0}, new int[] {0, -20, 0, 0, 0});
        Due.is("all ten each", x.would(7, 0), 70);
        Due.is("beside them", x.would(7, 1), 0);
        Due.is("in the GUTTER", x.would(7, 2), 0);
        Due.is("no fourth", x.would(7, 3), Due.BAD);
    }

    private static void inOrder() {
        Due.sentence("4: each THROWER in order one SHOT a round on THE LANE as it becomes: all PINS of each");
        int[][] told = {{25, 5, 12, 3, 0}, {23, 1, -1, 0, 0}, {28, -1, -7, 3, 0}, {27, -1, 8, 5, 0}};
        OilLane x = with(Due.laid("lay 6 29 0 17 7;"), told);
        OilLane y = Due.laid("lay 6 29 0 17 7;");
        int pins = 0;
        for (int round = 0; round < 5; round++) {
            for (int[] t : told) {
                pins += y.shot(t[0], t[1], t[2], t[3]);
            }
        }
        Due.is("evening(5)", x.evening(5), pins);
        for (int stretch = 0; stretch < 20; stretch++) {
            Due.is("oil(" + stretch + ")", x.oil(stretch), y.oil(stretch));
        }
        for (int what = 0; what < 7; what++) {
            Due.is("came(" + what + ") of the last", x.came(what), y.came(what));
        }
    }

    private static void theyStay() {
        Due.sentence("4: THE LANE, THROWERS stay as they come to be");
        OilLane x = four();
        OilLane y = four();
        int all = 0;
        for (int round = 0; round < 6; round++) {
            all += y.evening(1);
        }
        Due.is("evening(6) is six of evening(1)", x.evening(6), all);
        Due.is("oil", x.oil(-1), y.oil(-1));
        for (int t = 0; t < 4; t++) {
            for (int what = 0; what < 6; what++) {
                Due.is("stands(" + t + ", " + what + ")", x.stands(t, what), y.stands(t, what));
            }
        }
        Due.is("what would come then", x.would(2, -1), y.evening(2));
    }

    private static void triedLeavesNothing() {
        Due.sentence("4: TRIED: the same, but nothing stays");
        OilLane x = four();
        OilLane y = four();
        for (int k = 0; k < 3; k++) {
            Due.is("would(5, -1)", x.would(5, -1), y.would(5, -1));
            x.order(5, 0);
        }
        Due.is("oil", x.oil(-1), y.oil(-1));
        for (int t = 0; t < 4; t++) {
            for (int what = 0; what < 6; what++) {
                Due.is("stands(" + t + ", " + what + ")", x.stands(t, what), y.stands(t, what));
            }
        }
        Due.is("none was thrown", x.came(0), Due.NO);
        Due.is("evening(5)", x.evening(5), y.would(5, -1));
    }

    // ---- ORDER

    private static void whatOfOrder() {
        Due.sentence("Promise 23: PINS (what = 0), the order (1; 0 without THROWERS). BAD");
        OilLane x = new OilLane();
        for (int what : new int[] {-1, 2, Due.LOWEST, Due.HIGHEST}) {
            Due.is("order(3, " + what + ") of none", x.order(3, what), Due.BAD);
        }
        Due.is("PINS of none", x.order(3, 0), 0);
        Due.is("the order of none", x.order(3, 1), 0);
        with(x, new int[] {19, 0, 0, 0, 0});
        Due.is("PINS of one", x.order(3, 0), 30);
        Due.is("the order of one", x.order(3, 1), 0);
        for (int what : new int[] {-1, 2, Due.LOWEST, Due.HIGHEST}) {
            Due.is("order(3, " + what + ")", x.order(3, what), Due.BAD);
        }
    }

    private static void equalOnes() {
        Due.sentence("4: (told as figures, the first the highest); of several the least");
        int[] one = {19, 0, 0, 0, 0};
        int[] due = {0, 1, 12, 123};
        OilLane x = new OilLane();
        for (int size = 1; size <= 4; size++) {
            with(x, one);
            Due.is(size + " alike", x.order(2, 1), due[size - 1]);
            Due.is(size + " alike: PINS", x.order(2, 0), 20 * size);
        }
        int[] gutter = {0, -20, 0, 0, 0};
        OilLane y = new OilLane();
        for (int size = 1; size <= 4; size++) {
            with(y, gutter);
            Due.is(size + " in the GUTTER", y.order(2, 1), due[size - 1]);
            Due.is(size + " in the GUTTER: PINS", y.order(2, 0), 0);
        }
    }

    /** What would() tells of THROWERS that were told in each order: the most, and the least order of these. */
    private static void orderIs(String lane, int n, int figures, int asMany, int[]... told) {
        int[] sums = new int[10000];
        int most = -1;
        for (int order = 0; order < Math.pow(10, told.length); order++) {
            int[][] inOrder = new int[told.length][];
            int seen = 0;
            for (int k = told.length - 1, rest = order; k >= 0; k--, rest /= 10) {
                seen |= 1 << rest % 10;
                inOrder[k] = told[rest % 10 % told.length];
            }
            sums[order] = seen == (1 << told.length) - 1 ? with(Due.laid(lane), inOrder).would(n, -1) : -1;
            most = Math.max(most, sums[order]);
        }
        int least = -1;
        int several = 0;
        for (int order = 9999; order >= 0; order--) {
            if (order < Math.pow(10, told.length) && sums[order] == most) {
                least = order;
                several++;
            }
        }
        Due.is(lane + ": the least by would()", least, figures);
        Due.is(lane + ": so many orders do as well", several, asMany);
        Due.is(lane + ": order(" + n + ", 1)", with(Due.laid(lane), told).order(n, 1), figures);
        Due.is(lane + ": order(" + n + ", 0)", with(Due.laid(lane), told).order(n, 0), most);
    }

    private static void ofSeveral() {
        Due.sentence("4: ORDER: of all orders of THROWERS that by which all PINS .. are the most; of several the least");
        orderIs("lay 6 29 0 17 7;", 3, 3021, 3,
            new int[] {25, 5, 12, 3, 0}, new int[] {23, 1, -1, 0, 1}, new int[] {28, -1, -7, 3, 2}, new int[] {27, -1, 8, 5, 2});
        orderIs("lay 2 31 0 16 6;", 4, 3210, 1,
            new int[] {11, 5, -6, 0, 0}, new int[] {12, 3, 10, 0, 1}, new int[] {12, -3, 3, 1, 1}, new int[] {10, 5, -6, 1, 2});
        orderIs("lay 9 29 0 12 7;", 4, 210, 1,
            new int[] {15, -2, 7, 2, 2}, new int[] {10, 6, 6, 2, 1}, new int[] {19, -2, 3, 4, 1});
        orderIs("lay 8 33 0 9 7;", 3, 3201, 1,
            new int[] {21, -2, -7, 2, 2}, new int[] {21, -4, -14, 1, 2}, new int[] {14, 3, 4, 4, 1}, new int[] {15, -6, 10, 0, 2});
    }

    public static void main(String[] args) {
        told();
        fourAtMost();
        badAheadOfFull();
        stands();
        high();
        light();
        lastSlant();
        slantNone();
        gutter();
        againstItsSide();
        towardItsSide();
        noSide();
        noFarther();
        twoInARow();
        highAndLight();
        ruleTwoAlone();
        goesOnFromTheRow();
        rowEnds();
        rounds();
        noThrowers();
        whose();
        inOrder();
        theyStay();
        triedLeavesNothing();
        whatOfOrder();
        equalOnes();
        ofSeveral();
        Due.end();
    }
}
