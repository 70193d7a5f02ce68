import java.util.function.Supplier;

/** Bounds of HANDS, of MEAN and of BEST: a test for each sentence that names one. */
public final class HandBoundsTest {
    /** All ten tenths of a HAND go to one place. */
    private static OilLane allTo(OilLane x, int hand, int place) {
        x.scatter(hand, 1, place, 2);
        x.scatter(hand, 2, place, 6);
        x.scatter(hand, 3, place, 2);
        return x;
    }

    private static void scatterIs(String told, OilLane x, int hand, int... want) {
        for (int place = 0; place < 5; place++) {
            Due.is(told + ": place " + place + " of HAND " + hand, x.scatter(hand, place, place, 0), want[place]);
        }
    }

    private static void atFirst() {
        Due.sentence("4: HANDS 0 .. 3 have a SCATTER: .. 0, 2, 6, 2, 0 at first");
        OilLane x = new OilLane();
        for (int hand = 0; hand < 4; hand++) {
            scatterIs("at first", x, hand, 0, 2, 6, 2, 0);
        }
        for (int hand : new int[] {-1, 4, Due.LOWEST, Due.HIGHEST}) {
            Due.is("scatter of HAND " + hand, x.scatter(hand, 2, 1, 1), Due.BAD);
            Due.is("scatter of HAND " + hand + ", none", x.scatter(hand, 2, 2, 0), Due.BAD);
            Due.is("mean of HAND " + hand, x.mean(hand, 19, 0, 0, 0), Due.BAD);
            Due.is("best of HAND " + hand, x.best(hand, 0, 0), Due.NO);
        }
        for (int hand = 0; hand < 4; hand++) {
            scatterIs("nothing changed", x, hand, 0, 2, 6, 2, 0);
        }
    }

    private static void places() {
        Due.sentence("Promise 16: from one place to another (0 .. 4: -2 .. 2 BOARDS)");
        OilLane x = new OilLane();
        for (int place : new int[] {-1, 5, Due.LOWEST, Due.HIGHEST}) {
            Due.is("from " + place, x.scatter(1, place, 2, 0), Due.BAD);
            Due.is("to " + place, x.scatter(1, 2, place, 0), Due.BAD);
            Due.is("to " + place + ", 1", x.scatter(1, 2, place, 1), Due.BAD);
        }
        scatterIs("nothing changed", x, 1, 0, 2, 6, 2, 0);
        Due.is("from 2 to 0", x.scatter(1, 2, 0, 1), 1);
        Due.is("from 2 to 4", x.scatter(1, 2, 4, 3), 3);
        Due.is("from 0 to 4", x.scatter(1, 0, 4, 1), 4);
        Due.is("from 4 to 1", x.scatter(1, 4, 1, 2), 4);
        scatterIs("as moved", x, 1, 0, 4, 2, 2, 2);
        scatterIs("another HAND", x, 0, 0, 2, 6, 2, 0);
        scatterIs("another HAND", x, 2, 0, 2, 6, 2, 0);
    }

    private static void tenths() {
        Due.sentence("Promise 16: BAD: more than there are, too");
        OilLane x = new OilLane();
        Due.is("7 of 6", x.scatter(0, 2, 0, 7), Due.BAD);
        Due.is("1 of 0", x.scatter(0, 0, 2, 1), Due.BAD);
        Due.is("-1", x.scatter(0, 2, 0, -1), Due.BAD);
        Due.is("LOWEST", x.scatter(0, 2, 0, Due.LOWEST), Due.BAD);
        Due.is("HIGHEST", x.scatter(0, 2, 0, Due.HIGHEST), Due.BAD);
        scatterIs("nothing changed", x, 0, 0, 2, 6, 2, 0);
        Due.is("6 of 6", x.scatter(0, 2, 0, 6), 6);
        Due.is("1 of none now", x.scatter(0, 2, 0, 1), Due.BAD);
        Due.is("none of none", x.scatter(0, 2, 0, 0), 6);
        scatterIs("as moved", x, 0, 6, 2, 0, 2, 0);
    }

    private static void tenTogether() {
        Due.sentence("4: tenths for -2, -1, 0, 1, 2 BOARDS (10 together)");
        for (int place = 0; place < 5; place++) {
            OilLane x = allTo(new OilLane(), 3, place);
            int[] want = new int[5];
            want[place] = 10;
            scatterIs("all to " + place, x, 3, want);
            Due.is("11 of 10", x.scatter(3, place, (place + 1) % 5, 11), Due.BAD);
            Due.is("10 of 10", x.scatter(3, place, (place + 1) % 5, 10), 10);
        }
    }

    private static void toItself() {
        Due.sentence("Promise 16: Tenths go from one place to another: those of the other place then (the same, too)");
        OilLane x = new OilLane();
        Due.is("6 of 6", x.scatter(0, 2, 2, 6), 6);
        Due.is("3 of 6", x.scatter(0, 2, 2, 3), 6);
        Due.is("7 of 6", x.scatter(0, 2, 2, 7), Due.BAD);
        Due.is("none of none", x.scatter(0, 4, 4, 0), 0);
        Due.is("1 of none", x.scatter(0, 4, 4, 1), Due.BAD);
        scatterIs("nothing changed", x, 0, 0, 2, 6, 2, 0);
    }

    private static void noSuchBoard() {
        Due.sentence("4: (.. a BOARD that is none: GUTTER)");
        // on a slick lane AIM 10 comes from BOARD 0 to 205, AIM -9 from BOARD 38 to 205
        for (int place = 0; place < 5; place++) {
            OilLane x = allTo(Due.slick(), 1, place);
            for (int board = 0; board < 5; board++) {
                int from = board + place - 2;
                int pins = from < 0 ? 0 : Due.pins(x.fall(205 + 10 * from, 10, 12, 1023));
                Due.is("place " + place + ", BOARD " + board, x.mean(1, board, 10, 0, 0), 10 * pins);
                int other = 38 - board + place - 2;
                pins = other > 38 ? 0 : Due.pins(x.fall(205 - 10 * (38 - other), -9, 12, 1023));
                Due.is("place " + place + ", BOARD " + (38 - board), x.mean(1, 38 - board, -9, 0, 0), 10 * pins);
            }
        }
        OilLane x = Due.slick();
        // 2 tenths are beyond the edge, 6 from the last BOARD (8 and 7 fall), 2 from the one beside it (all ten fall)
        Due.is("the usual HAND at 0", x.mean(0, 0, 10, 0, 0), 6 * 8 + 2 * 10);
        Due.is("the usual HAND at 38", x.mean(0, 38, -9, 0, 0), 6 * 7 + 2 * 10);
    }

    private static void meanAdds() {
        Due.sentence("4: PINS that fall of all ten, by tenths, added (so times 10)");
        OilLane x = Due.slick();
        Due.is("all ten", x.mean(0, 19, 0, 0, 0), 100);
        Due.is("none", x.mean(0, 3, 0, 0, 0), 0);
        Due.is("in the GUTTER", x.mean(0, 3, -10, 0, 0), 0);
        // straight balls from 14 .. 18 with 1, 2, 3, 4, 0 tenths
        x.scatter(2, 2, 0, 1);
        x.scatter(2, 2, 3, 2);
        int due = 0;
        for (int k = 0; k < 5; k++) {
            due += new int[] {1, 2, 3, 4, 0}[k] * Due.pins(x.fall(145 + 10 * k, 0, 12, 1023));
        }
        Due.is("by tenths", x.mean(2, 16, 0, 0, 0), due);
    }

    private static void meanRefuses() {
        Due.sentence("Promise 17: MEAN. BAD (HAND 0 .. 3, BOARD 0 .. 38, AIM -20 .. 20, SPIN -30 .. 30, BALL 0 .. 5)");
        int[][] bounds = {{0, 3}, {0, 38}, {-20, 20}, {-30, 30}, {0, 5}};
        OilLane x = Due.slick();
        for (int k = 0; k < 5; k++) {
            for (int v : new int[] {bounds[k][0] - 1, bounds[k][1] + 1, Due.LOWEST, Due.HIGHEST}) {
                int[] a = {0, 19, 0, 0, 0};
                a[k] = v;
                Due.is("mean with " + v + " as number " + k, x.mean(a[0], a[1], a[2], a[3], a[4]), Due.BAD);
            }
            for (int v : bounds[k]) {
                int[] a = {0, 19, 0, 0, 0};
                a[k] = v;
                Due.is("mean with " + v + " as number " + k, x.mean(a[0], a[1], a[2], a[3], a[4]), k == 1 || k == 2 ? 0 : 100);
            }
        }
    }

    private static void eachAlone() {
        Due.sentence("4: (each tried alone, THE LANE is not changed)");
        // nine DROPS leave a GRIP of 6; a ball that took some would leave more GRIP to the next
        OilLane x = Due.laid("lay 0 38 0 19 9;");
        int drops = x.oil(-1);
        int mean = x.mean(0, 14, 2, 9, 4);
        for (int k = 0; k < 12; k++) {
            Due.is("again", x.mean(0, 14, 2, 9, 4), mean);
        }
        Due.is("oil", x.oil(-1), drops);
        Due.is("none was thrown", x.came(0), Due.NO);
        int due = 0;
        for (int k = 1; k <= 3; k++) {
            OilLane fresh = Due.laid("lay 0 38 0 19 9;");
            due += (k == 2 ? 6 : 2) * fresh.shot(12 + k, 2, 9, 4);
        }
        Due.is("each on a fresh lane", mean, due);
    }

    // ---- BEST

    /** The greatest MEAN over all BALLS, BOARDS and AIMS of -6 .. 6, the first of several; no object has over 512 calls. */
    private static int[] bestByMeans(Supplier<OilLane> recipe, int hand, int spin) {
        int[] best = {-1, 0, 0, 0};
        for (int ball = 0; ball < 6; ball++) {
            for (int board = 0; board < 39; board++) {
                OilLane x = recipe.get();
                for (int aim = -6; aim <= 6; aim++) {
                    int mean = x.mean(hand, board, aim, spin, ball);
                    if (mean > best[0]) {
                        best = new int[] {mean, ball, board, aim};
                    }
                }
            }
        }
        return best;
    }

    private static void bestIs(String told, OilLane x, int hand, int spin, int... want) {
        for (int what = 0; what < 4; what++) {
            Due.is(told + ": best(" + hand + ", " + spin + ", " + what + ")", x.best(hand, spin, what), want[what]);
        }
    }

    private static OilLane uneven() {
        OilLane x = Due.laid("lay 8 30 0 12 7;lay 15 22 3 9 5;lay 0 5 0 19 4;");
        x.scatter(1, 2, 0, 3);
        x.scatter(1, 2, 4, 2);
        x.ball(3, 1, 5);
        x.ball(1, 1, 16);
        return x;
    }

    private static void bestOfAll() {
        Due.sentence("4: BEST of a HAND and a SPIN: of all BALLS, BOARDS and AIMS of -6 .. 6 the greatest MEAN");
        for (int spin : new int[] {-30, -9, 4, 30}) {
            bestIs("uneven", uneven(), 0, spin, bestByMeans(HandBoundsTest::uneven, 0, spin));
            bestIs("uneven", uneven(), 1, spin, bestByMeans(HandBoundsTest::uneven, 1, spin));
        }
    }

    private static void ballsOfBest() {
        Due.sentence("4: BEST: of all BALLS (0 .. 5)");
        // the dry first STRETCH takes SKIN 9 to the GUTTER with SPIN 30; one BALL has SKIN 1
        for (int good = 0; good < 6; good++) {
            OilLane x = Due.slickBut(0);
            for (int k = 0; k < 6; k++) {
                x.ball(k, 0, k == good ? 1 : 9);
            }
            Due.is("BALL " + good, x.best(0, 30, 1), good);
            Due.is("MEAN of BALL " + good, x.best(0, 30, 0), 100);
        }
    }

    /** With SPIN 30 all but those from one BOARD come to the GUTTER. */
    private static OilLane openFrom(int board, int place) {
        String wet = "lay 0 38 1 19 30;lay " + board + " " + board + " 0 0 30;";
        OilLane x = allTo(Due.laid(wet + wet), 0, place);
        for (int k = 0; k < 6; k++) {
            x.ball(k, 0, 9);
        }
        return x;
    }

    private static void boardsOfBest() {
        Due.sentence("4: BEST: of all .. BOARDS (0 .. 38)");
        for (int open = 0; open < 39; open++) {
            for (int place = 0; place < 5; place++) {
                // all ten tenths are for one step to the side: the BOARD from which that is the open one, if there is such
                int board = open - place + 2;
                boolean some = board >= 0 && board <= 38;
                OilLane x = openFrom(open, place);
                int due = some ? x.mean(0, board, x.best(0, 30, 3), 30, 0) : 0;
                String told = "open from " + open + ", all at " + place;
                Due.is(told + ": MEAN", x.best(0, 30, 0), due);
                Due.is(told + ": is there any", x.best(0, 30, 0) > 0 ? 1 : 0, some ? 1 : 0);
                Due.is(told + ": BOARD", x.best(0, 30, 2), some ? board : 0);
            }
        }
    }

    private static void ninetyNine() {
        Due.sentence("4: BEST: .. the greatest MEAN (100 of a later BALL ahead of 99)");
        // open from 14 and 16 alone; one tenth from two BOARDS less, nine straight: with WEIGHT 8 one PIN stays once
        String wet = "lay 0 38 1 19 30;lay 14 14 0 0 30;lay 16 16 0 0 30;";
        OilLane x = Due.laid(wet + wet);
        for (int k = 0; k < 6; k++) {
            x.ball(k, 0, 9);
            x.ball(k, 1, k < 4 ? 8 : 12);
        }
        x.scatter(0, 1, 2, 2);
        x.scatter(0, 3, 2, 2);
        x.scatter(0, 2, 0, 1);
        Due.is("BALL 3 from 16", mostFrom(x, 3), 99);
        Due.is("BALL 4 from 16", mostFrom(x, 4), 100);
        Due.is("MEAN", x.best(0, 30, 0), 100);
        Due.is("BALL", x.best(0, 30, 1), 4);
        Due.is("BOARD", x.best(0, 30, 2), 16);
    }

    private static int mostFrom(OilLane x, int ball) {
        int most = 0;
        for (int aim = -6; aim <= 6; aim++) {
            most = Math.max(most, x.mean(0, 16, aim, 30, ball));
        }
        return most;
    }

    private static void aimsOfBest() {
        Due.sentence("4: AIMS of -6 .. 6");
        // slick, no SCATTER: AIM 6 comes from BOARD 5 to 175, where all fall; 7 would come from BOARD 4 to 185
        OilLane x = allTo(Due.slick(), 0, 2);
        Due.is("BOARD 4, AIM 7", x.mean(0, 4, 7, 0, 0), 100);
        Due.is("BOARD 4, AIM 6", x.mean(0, 4, 6, 0, 0) < 100 ? 0 : 1, 0);
        Due.is("BOARD 5, AIM 6", x.mean(0, 5, 6, 0, 0), 100);
        bestIs("slick", x, 0, 0, 100, 0, 5, 6);
    }

    private static void noneFalls() {
        Due.sentence("4: of several the least BALL, BOARD, AIM (all in the GUTTER, too)");
        // dry, all with SKIN 9 and SPIN 30: every ball is in the GUTTER
        OilLane x = new OilLane();
        for (int k = 0; k < 6; k++) {
            x.ball(k, 0, 9);
        }
        bestIs("all in the GUTTER", x, 0, 30, 0, 0, 0, -6);
        bestIs("all in the GUTTER", x, 3, -30, 0, 0, 0, -6);
    }

    private static OilLane leastBall() {
        OilLane x = allTo(new OilLane(), 0, 2);
        x.ball(0, 0, 4);
        for (int k = 1; k < 6; k++) {
            x.ball(k, 0, 9);
        }
        return x;
    }

    private static void leastOfSeveral() {
        Due.sentence("4: of several the least BALL, BOARD, AIM");
        int[] best = bestByMeans(HandBoundsTest::leastBall, 0, 8);
        bestIs("by all MEANS", leastBall(), 0, 8, best);
        bestIs("told", leastBall(), 0, 8, 100, 0, 1, -1);
        OilLane x = leastBall();
        int lesser = 0;
        int alike = 0;
        for (int aim = -6; aim <= 6; aim++) {
            lesser += x.mean(0, 0, aim, 8, 1) == 100 ? 1 : 0;
            alike += x.mean(0, 1, aim, 8, 0) == 100 ? 1 : 0;
        }
        Due.is("BALL 1 does as well from BOARD 0, with so many AIMS", lesser, 2);
        Due.is("BALL 0 does as well from BOARD 1, with so many AIMS", alike, 2);
    }

    private static void bestRefuses() {
        Due.sentence("Promise 18: MEAN (what = 0), BALL (1), BOARD (2), AIM (3). NO: BAD");
        OilLane x = Due.slick();
        for (int v : new int[] {-1, 4, Due.LOWEST, Due.HIGHEST}) {
            Due.is("what " + v, x.best(0, 0, v), Due.NO);
            Due.is("HAND " + v, x.best(v, 0, 0), Due.NO);
        }
        for (int v : new int[] {-31, 31, Due.LOWEST, Due.HIGHEST}) {
            Due.is("SPIN " + v, x.best(0, v, 0), Due.NO);
        }
        Due.is("HAND 0, SPIN -30", x.best(0, -30, 0), 100);
        Due.is("HAND 3, SPIN 30", x.best(3, 30, 0), 100);
        Due.is("nothing was thrown", x.came(0), Due.NO);
        Due.is("no oil was taken", x.oil(-1), 780 * 60);
    }

    public static void main(String[] args) {
        atFirst();
        places();
        tenths();
        tenTogether();
        toItself();
        noSuchBoard();
        meanAdds();
        meanRefuses();
        eachAlone();
        bestOfAll();
        ballsOfBest();
        boardsOfBest();
        ninetyNine();
        aimsOfBest();
        noneFalls();
        leastOfSeveral();
        bestRefuses();
        Due.end();
    }
}
