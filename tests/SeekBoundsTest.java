/** Bounds of CLUES and FITS, TRUNKS, SPARES, KINDS, IMAGES and counts: a test for each sentence that names one. */
public final class SeekBoundsTest {
    private static final int ALL = 1023;
    private static final String SLICK = "lay 0 38 0 19 30;lay 0 38 0 19 30;";

    // ---- CLUES, FITS

    private static void clues() {
        Due.sentence("4: CLUES (.. a BOARD, an AIM, a SPIN, a BALL, the PLACE at ROW 0, -1 for the GUTTER); Promise 24: BAD");
        int[][] bounds = {{0, 38}, {-20, 20}, {-30, 30}, {0, 5}, {-1, 389}};
        for (int k = 0; k < 5; k++) {
            OilLane x = new OilLane();
            for (int v : new int[] {bounds[k][0] - 1, bounds[k][1] + 1, Due.LOWEST, Due.HIGHEST}) {
                int[] a = {19, 0, 0, 0, 195};
                a[k] = v;
                Due.is("clue with " + v + " as number " + k, x.clue(a[0], a[1], a[2], a[3], a[4]), Due.BAD);
                Due.is("none came", x.count(1), 0);
            }
            for (int n = 0; n < 2; n++) {
                int[] a = {19, 0, 0, 0, 195};
                a[k] = bounds[k][n];
                Due.is("clue with " + a[k] + " as number " + k, x.clue(a[0], a[1], a[2], a[3], a[4]), n + 1);
            }
        }
    }

    private static void sixAtMost() {
        Due.sentence("4: CLUES (6 at most ..); Promise 24: how many there are. BAD; FULL");
        OilLane x = Due.laid(SLICK);
        for (int n = 1; n <= 6; n++) {
            Due.is("clue " + n, x.clue(19, 0, 0, 0, 195), n);
            Due.is("count(1)", x.count(1), n);
        }
        Due.is("a seventh", x.clue(19, 0, 0, 0, 5), Due.FULL);
        Due.is("count(1)", x.count(1), 6);
        Due.is("it is not among them", x.fits(), 1);
        Due.is("a seventh still", x.clue(19, 0, 0, 0, 195), Due.FULL);
    }

    private static void badAheadOfFull() {
        Due.sentence("Refused, the first of these: BAD ahead of FULL (clue)");
        OilLane x = new OilLane();
        for (int n = 1; n <= 6; n++) {
            x.clue(19, 0, 0, 0, 195);
        }
        Due.is("BOARD 39", x.clue(39, 0, 0, 0, 195), Due.BAD);
        Due.is("AIM -21", x.clue(19, -21, 0, 0, 195), Due.BAD);
        Due.is("SPIN -31", x.clue(19, 0, -31, 0, 195), Due.BAD);
        Due.is("BALL -1", x.clue(19, 0, 0, -1, 195), Due.BAD);
        Due.is("PLACE -2", x.clue(19, 0, 0, 0, -2), Due.BAD);
        Due.is("PLACE 390", x.clue(19, 0, 0, 0, 390), Due.BAD);
        Due.is("PLACE 389", x.clue(19, 0, 0, 0, 389), Due.FULL);
    }

    private static void sixthCounts() {
        Due.sentence("4: FITS: CLUES one behind another: .. SHOTS in that order come just so (each of six)");
        for (int odd = 0; odd < 6; odd++) {
            for (int less = -1; less <= 1; less++) {
                OilLane x = Due.laid(SLICK);
                for (int n = 0; n < 6; n++) {
                    x.clue(10 + n, 1, 0, 0, 10 * (10 + n) + 25 + (n == odd ? less : 0));
                }
                Due.is("clue " + odd + " by " + less, x.fits(), less == 0 ? 1 : 0);
            }
        }
    }

    private static void justSo() {
        Due.sentence("4: FITS: .. come just so (-1 for the GUTTER, 0 and 389 at the edges)");
        // the last STRETCH is dry: 5 less 5 is 0, less 6 the GUTTER; 385 and 4 is 389, and 5 the GUTTER
        int[][] shots = {{0, -25, 0}, {0, -30, -1}, {38, 20, 389}, {38, 25, -1}};
        for (int[] s : shots) {
            for (int place : new int[] {-1, 0, 389}) {
                OilLane x = Due.tell(new OilLane(), 2, SLICK + "strip 19 19;");
                x.clue(s[0], 0, s[1], 0, place);
                Due.is("from " + s[0] + " by SPIN " + s[1] + ", told " + place, x.fits(), place == s[2] ? 4 : 0);
            }
        }
    }

    private static void laidFresh() {
        Due.sentence("4: FITS: .. of which PATTERNS, laid fresh, SHOTS in that order ..");
        // ten DROPS: the first ball slides and takes nine of these; then BALL 5 has GRIP 7 in two of its cells
        OilLane x = Due.laid("lay 0 38 0 19 10;");
        Due.is("the first", x.tried(10, 0, 30, 5), 105);
        x.shot(10, 0, 30, 5);
        Due.is("the second", x.tried(10, 0, 30, 5), 183);
        int drops = x.oil(-1);
        x.clue(10, 0, 30, 5, 105);
        Due.is("fresh, whatever THE LANE is now", x.fits(), 1);
        x.clue(10, 0, 30, 5, 183);
        for (int k = 0; k < 3; k++) {
            Due.is("in that order", x.fits(), 1);
        }
        Due.is("THE LANE stays", x.oil(-1), drops);
        Due.is("the latest stays", x.came(0), 105);
        OilLane y = Due.laid("lay 0 38 0 19 10;");
        y.clue(10, 0, 30, 5, 183);
        y.clue(10, 0, 30, 5, 105);
        Due.is("not in the other order", y.fits(), 0);
    }

    private static void whichFit() {
        Due.sentence("Promise 25: FITS, as bits (of PATTERNS 0 .. 3 that were told)");
        OilLane x = new OilLane();
        Due.is("no PATTERN, no CLUE", x.fits(), 0);
        x.clue(19, 0, 0, 0, 195);
        Due.is("no PATTERN", x.fits(), 0);
        int bits = 0;
        for (int k : new int[] {2, 0, 3, 1}) {
            x.pattern(k);
            bits |= 1 << k;
            Due.is("with " + k, x.fits(), bits);
        }
        // SPIN 30 bends a dry ball; PATTERNS 1 and 3 become slick
        Due.tell(x, 1, SLICK);
        Due.tell(x, 3, SLICK);
        x.clue(19, 0, 30, 0, 195);
        Due.is("the slick ones", x.fits(), 2 + 8);
        Due.is("no CLUE: all that were told", Due.tell(Due.tell(new OilLane(), 3, SLICK), 0, "").fits(), 8 + 1);
    }

    // ---- TRUNK

    private static final String[] TEXTS = {"lay 0 38 0 19 3;", "lay 5 33 0 12 9;", "lay 0 20 0 19 8;", ""};

    private static OilLane trunkLane(int... told) {
        OilLane x = new OilLane();
        for (int p : told) {
            Due.tell(x, p, TEXTS[p]);
        }
        x.scatter(0, 2, 0, 3);
        x.scatter(0, 2, 4, 3);
        x.ball(4, 1, 5);
        return x;
    }

    /** The greatest MEAN with each BALL, by mean() on each PATTERN. */
    private static int[][] greatest(int spin, int... told) {
        int[][] of = new int[told.length][6];
        for (int p = 0; p < told.length; p++) {
            OilLane x = trunkLane(told);
            x.lay(told[p]);
            for (int ball = 0; ball < 6; ball++) {
                for (int board = 0; board <= 35; board += 5) {
                    for (int aim = -6; aim <= 6; aim += 3) {
                        of[p][ball] = Math.max(of[p][ball], x.mean(0, board, aim, spin, ball));
                    }
                }
            }
        }
        return of;
    }

    private static int added(int[][] of, int set) {
        int sum = 0;
        for (int[] balls : of) {
            int most = 0;
            for (int ball = 0; ball < 6; ball++) {
                most = (set >> ball & 1) == 1 ? Math.max(most, balls[ball]) : most;
            }
            sum += most;
        }
        return sum;
    }

    private static void trunkIs(int spin, int... told) {
        int[][] of = greatest(spin, told);
        OilLane x = trunkLane(told);
        int drops = x.oil(-1);
        for (int k = 1; k <= 3; k++) {
            int chosen = -1;
            for (int set = 63; set >= 0; set--) {
                boolean better = chosen < 0 || added(of, set) >= added(of, chosen);
                chosen = Due.pins(set) == k && better ? set : chosen;
            }
            String call = told.length + " PATTERNS, SPIN " + spin + ": trunk(" + k;
            Due.is(call + ", .., 0)", x.trunk(k, spin, 0), chosen);
            Due.is(call + ", .., 1)", x.trunk(k, spin, 1), added(of, chosen));
        }
        Due.is("THE LANE stays", x.oil(-1), drops);
        Due.is("none was thrown", x.came(0), Due.NO);
    }

    private static void trunks() {
        Due.sentence("4: TRUNK: .. over all PATTERNS that were told, the greatest MEANS (..) with one of these, added, are the most");
        for (int spin = -30; spin <= 30; spin += 4) {
            trunkIs(spin, 0, 1, 2, 3);
            trunkIs(spin, 1);
            trunkIs(spin, 2, 3);
        }
        trunkIs(30, 0, 1, 2, 3);
    }

    /**
     * All BALLS have SKIN 9, HAND 0 does not scatter, and the first STRETCH is dry but for one BOARD, the others slick: with
     * SPIN 30 the dry ones take a ball to the GUTTER, and from that one BOARD it comes to 10 * BOARD + 5 + 20 * AIM.
     */
    private static OilLane openFrom(int board) {
        String wet = "lay 0 38 1 19 30;lay " + board + " " + board + " 0 0 30;";
        OilLane x = Due.laid(wet + wet);
        for (int k = 0; k < 6; k++) {
            x.ball(k, 0, 9);
        }
        x.scatter(0, 1, 2, 2);
        x.scatter(0, 3, 2, 2);
        return x;
    }

    private static int mostFrom(int board, int step) {
        int most = 0;
        for (int aim = -6; aim <= 6; aim += step) {
            int place = 10 * board + 5 + 20 * aim;
            if (place >= 0 && place <= 389) {
                most = Math.max(most, Due.pins(new OilLane().fall(place, aim, 12, ALL)));
            }
        }
        return most;
    }

    private static void byFives() {
        Due.sentence("4: (HAND 0 ..; BOARDS by fives 0, 5, .. 35, AIMS ..)");
        for (int board = 0; board < 39; board++) {
            int due = board % 5 == 0 && board <= 35 ? 10 * mostFrom(board, 3) : 0;
            Due.is("open from " + board, openFrom(board).trunk(1, 30, 1), due);
        }
        Due.is("0 has something to give", mostFrom(0, 3) > 0 ? 1 : 0, 1);
        Due.is("35 has", mostFrom(35, 3) > 0 ? 1 : 0, 1);
        Due.is("36 would have", mostFrom(36, 3) > 0 ? 1 : 0, 1);
    }

    private static void byThrees() {
        Due.sentence("4: (.. AIMS -6, -3, 0, 3, 6)");
        // from 0 AIM 6 alone reaches PINS (125), from 35 AIM -6 is the best (235)
        for (int board = 0; board <= 35; board += 5) {
            OilLane x = openFrom(board);
            Due.is("from " + board, x.trunk(2, 30, 1), 10 * mostFrom(board, 3));
        }
        Due.is("AIM 6 from 0", openFrom(0).trunk(1, 30, 1), 10 * Due.pins(new OilLane().fall(125, 6, 12, ALL)));
        Due.is("AIM -6 from 35", openFrom(35).trunk(1, 30, 1), 10 * Due.pins(new OilLane().fall(235, -6, 12, ALL)));
        int apart = 0;
        for (int board = 0; board <= 35; board += 5) {
            apart += mostFrom(board, 1) > mostFrom(board, 3) ? 1 : 0;
        }
        Due.is("AIMS in between would do better from some", apart > 0 ? 1 : 0, 1);
    }

    private static void handOfTrunk() {
        Due.sentence("4: the greatest MEANS (HAND 0, ..)");
        OilLane x = openFrom(37);
        Due.is("HAND 0 without SCATTER", x.trunk(1, 30, 1), 0);
        x.scatter(1, 2, 4, 6);
        x.scatter(2, 2, 4, 6);
        x.scatter(3, 2, 4, 6);
        Due.is("other HANDS do not matter", x.trunk(1, 30, 1), 0);
        x.scatter(0, 2, 4, 10);
        Due.is("HAND 0 two BOARDS on", x.trunk(1, 30, 1), 10 * mostFrom(37, 3));
        Due.is("which is something", mostFrom(37, 3) > 0 ? 1 : 0, 1);
    }

    private static void trunkOfNone() {
        Due.sentence("4: TRUNK: the set of k BALLS (1 .. 3) ..; of several the least (bits)");
        OilLane x = new OilLane();
        for (int k : new int[] {0, 4, -1, Due.LOWEST, Due.HIGHEST}) {
            Due.is("trunk(" + k + ", 0, 0)", x.trunk(k, 0, 0), Due.BAD);
            Due.is("trunk(" + k + ", 0, 1)", x.trunk(k, 0, 1), Due.BAD);
        }
        for (int k = 1; k <= 3; k++) {
            Due.is("no PATTERN: trunk(" + k + ", 0, 0)", x.trunk(k, 0, 0), (1 << k) - 1);
            Due.is("no PATTERN: trunk(" + k + ", 0, 1)", x.trunk(k, 0, 1), 0);
            Due.is("all alike: trunk(" + k + ", 0, 0)", Due.slick().trunk(k, 0, 0), (1 << k) - 1);
            Due.is("all alike: trunk(" + k + ", 0, 1)", Due.slick().trunk(k, 0, 1), 100);
        }
        // BALL 3 alone (SKIN 1) is not taken to the GUTTER: the least sets with it are 8, 9, 11
        for (int good = 0; good < 6; good++) {
            x = Due.slickBut(0);
            for (int k = 0; k < 6; k++) {
                x.ball(k, 0, k == good ? 1 : 9);
            }
            int rest = ~(1 << good);
            Due.is("one, with " + good, x.trunk(1, 30, 0), 1 << good);
            Due.is("two, with " + good, x.trunk(2, 30, 0), 1 << good | Integer.lowestOneBit(rest));
            int second = Integer.lowestOneBit(rest);
            Due.is("three, with " + good, x.trunk(3, 30, 0), 1 << good | second | Integer.lowestOneBit(rest & ~second));
        }
    }

    private static void trunkRefuses() {
        Due.sentence("Promise 26: the set (what = 0), the MEANS added (1). BAD (k 1 .. 3, SPIN -30 .. 30)");
        OilLane x = Due.slick();
        for (int v : new int[] {-31, 31, Due.LOWEST, Due.HIGHEST}) {
            Due.is("SPIN " + v, x.trunk(1, v, 0), Due.BAD);
        }
        for (int v : new int[] {-1, 2, Due.LOWEST, Due.HIGHEST}) {
            Due.is("what " + v, x.trunk(1, 0, v), Due.BAD);
        }
        Due.is("SPIN -30", x.trunk(1, -30, 0), 1);
        Due.is("SPIN 30", x.trunk(3, 30, 1), 100);
    }

    private static void toldPatternsCount() {
        Due.sentence("4: TRUNK: .. over all PATTERNS that were told, .. added");
        OilLane x = new OilLane();
        for (int k = 0; k < 4; k++) {
            Due.is(k + " told", x.trunk(1, 0, 1), 100 * k);
            Due.tell(x, 3 - k, k % 2 == 0 ? SLICK : "");
        }
        Due.is("four told", x.trunk(1, 0, 1), 400);
        Due.is("THE LANE does not matter", x.oil(-1), 0);
    }

    // ---- SPARE

    /** By fall(): a ball without SPIN is straight, whatever lies there. */
    private static int[] spareByFall(int set, int weight) {
        int[] most = {-1, 0, 0};
        for (int board = 0; board < 39; board++) {
            OilLane x = new OilLane();
            for (int aim = -6; aim <= 6; aim++) {
                int place = 10 * board + 5 + 20 * aim;
                int pins = place < 0 || place > 389 ? 0 : Due.pins(x.fall(place, aim, weight, set));
                if (pins > most[0]) {
                    most = new int[] {pins, board, aim};
                }
            }
        }
        return most;
    }

    private static void spareIs(OilLane x, int set, int ball, int weight) {
        int[] due = spareByFall(set, weight);
        for (int what = 0; what < 3; what++) {
            Due.is("spare(" + set + ", " + ball + ", " + what + ")", x.spare(set, ball, what), due[what]);
        }
    }

    private static void spares() {
        Due.sentence("4: SPARE: .. the BOARD (0 .. 38) and AIM (-6 .. 6), SPIN 0, by which most fall ..; of several the first");
        OilLane x = Due.laid("lay 8 30 0 12 7;lay 15 22 3 9 5;");
        x.ball(1, 1, 5);
        x.ball(2, 1, 16);
        for (int pin = 0; pin < 10; pin++) {
            spareIs(x, Due.set(pin), 0, 12);
            spareIs(x, ALL & ~Due.set(pin), 1, 5);
        }
        for (int set : new int[] {Due.set(6, 9), Due.set(3, 5), Due.set(0, 6, 9), Due.set(4, 7, 8), Due.set(6, 7, 8, 9), ALL}) {
            spareIs(x, set, 0, 12);
            spareIs(x, set, 1, 5);
            spareIs(x, set, 2, 16);
        }
        // PIN 9 at 285: AIM 6 is at 245 from BOARD 12 and at 263 in ROW 3, 22 from it; AIM 7 would do from BOARD 10
        Due.is("PIN 9: BOARD", x.spare(512, 0, 1), 12);
        Due.is("PIN 9: AIM", x.spare(512, 0, 2), 6);
    }

    private static void spareOfNone() {
        Due.sentence("4: SPARE: of a set of PINS that stand (bits) .. of several the first (none stands: BOARD 0, AIM -6)");
        OilLane x = new OilLane();
        Due.is("how many", x.spare(0, 0, 0), 0);
        Due.is("BOARD", x.spare(0, 0, 1), 0);
        Due.is("AIM", x.spare(0, 0, 2), -6);
        Due.is("AIM with BALL 5", x.spare(0, 5, 2), -6);
    }

    private static void spareRefuses() {
        Due.sentence("Promise 27: how many fall (what = 0), BOARD (1), AIM (2). NO: BAD (set 0 .. 1023, BALL 0 .. 5)");
        OilLane x = Due.slick();
        for (int v : new int[] {-1, 1024, Due.LOWEST, Due.HIGHEST}) {
            Due.is("set " + v, x.spare(v, 0, 0), Due.NO);
        }
        for (int v : new int[] {-1, 6, Due.LOWEST, Due.HIGHEST}) {
            Due.is("BALL " + v, x.spare(1, v, 0), Due.NO);
        }
        for (int v : new int[] {-1, 3, Due.LOWEST, Due.HIGHEST}) {
            Due.is("what " + v, x.spare(1, 0, v), Due.NO);
        }
        Due.is("set 1", x.spare(1, 0, 0), 1);
        Due.is("set 1023, BALL 5", x.spare(ALL, 5, 0), 10);
        Due.is("THE LANE stays", x.oil(-1), 780 * 60);
        Due.is("none was thrown", x.came(0), Due.NO);
    }

    // ---- KINDS

    private static void noWorth() {
        Due.sentence("Promise 28: NO: BAD, or none was thrown");
        OilLane x = Due.slick();
        for (int kind = -1; kind <= 6; kind++) {
            Due.is("worth(" + kind + ") of none", x.worth(kind), Due.NO);
        }
        x.tried(19, 0, 0, 0);
        x.evening(2);
        Due.is("worth(0): still none", x.worth(0), Due.NO);
        x.shot(19, 0, 0, 0);
        for (int kind : new int[] {-1, 6, Due.LOWEST, Due.HIGHEST}) {
            Due.is("worth(" + kind + ")", x.worth(kind), Due.NO);
        }
        Due.is("what is refused leaves no trace", x.trace(), 0);
        Due.is("worth(0)", x.worth(0), 10);
        Due.is("trace()", x.trace(), 1);
    }

    private static void kinds() {
        Due.sentence("4: KINDS: 0 SHOT; 1 FLUSH, 2 HIGH, 5 BURNT; 3 SPLIT; 4 TAPPED, and THE TRACE of each");
        // slick but for the first STRETCH: SPIN 3 of BALL 4 (GRIP 60) adds 1 there; FILM 9; it SLIDES in 19, HOOKS in 1
        int[] want = {10, 11, 9, 18, 20, -9};
        int[] marks = {1, 11, 101, 1101, 10011, 100001};
        for (int kind = 0; kind < 6; kind++) {
            OilLane x = Due.slickBut(0);
            Due.is("shot", x.shot(17, 0, 3, 4), 10);
            Due.came("shot", x, 195, 1, 1, 9, 19, 1);
            Due.is("worth(" + kind + ")", x.worth(kind), want[kind]);
            Due.is("trace behind worth(" + kind + ")", x.trace(), marks[kind]);
            Due.is("worth(" + kind + ") again", x.worth(kind), want[kind]);
            Due.is("trace behind two", x.trace(), 2 * marks[kind]);
        }
    }

    private static void worthInTheGutter() {
        Due.sentence("4: WORTH may be below 0 (of none that fell: HIGH -1, SPLIT -2, BURNT less what it SLID)");
        int[] want = {0, 0, -1, -2, 6, -6};
        OilLane x = Due.slick();
        x.shot(0, -1, 0, 0);
        for (int kind = 0; kind < 6; kind++) {
            Due.is("worth(" + kind + ")", x.worth(kind), want[kind]);
        }
    }

    private static void traceGrows() {
        Due.sentence("Promise 32: THE TRACE (numbers come to it as often as worth() asks that body)");
        OilLane x = Due.slick();
        x.shot(19, 0, 0, 0);
        for (int n = 1; n <= 400; n++) {
            x.worth(5);
        }
        Due.is("400 times BURNT", x.trace(), 400L * 100001);
        x.shot(0, 0, 0, 0);
        x.lay(0);
        Due.is("nothing else comes to it", x.trace(), 400L * 100001);
    }

    // ---- IMAGES

    private static void images() {
        Due.sentence("4: IMAGES 0, 1; Promise 29: all DROPS. BAD; Promise 30: BAD");
        OilLane x = Due.laid("lay 0 0 0 0 7;");
        for (int image : new int[] {-1, 2, Due.LOWEST, Due.HIGHEST}) {
            Due.is("keep(" + image + ")", x.keep(image), Due.BAD);
            Due.is("back(" + image + ")", x.back(image), Due.BAD);
        }
        Due.is("keep(0)", x.keep(0), 7);
        Due.tell(x, 0, SLICK).lay(0);
        Due.is("keep(1)", x.keep(1), 780 * 60);
        for (int image : new int[] {-1, 2, Due.LOWEST, Due.HIGHEST}) {
            Due.is("back(" + image + ") when both are kept", x.back(image), Due.BAD);
        }
        Due.is("back(0)", x.back(0), 7);
        Due.is("back(1)", x.back(1), 780 * 60);
        Due.is("back(0)", x.back(0), 7);
        Due.is("drops(0, 0)", x.drops(0, 0), 7);
    }

    private static void noneKept() {
        Due.sentence("Promise 30: STATE: none was kept");
        for (int image = 0; image < 2; image++) {
            OilLane x = Due.slick();
            x.thrower(19, 0, 0, 0, 0);
            Due.is("back(" + image + ")", x.back(image), Due.STATE);
            Due.is("THE LANE stays", x.oil(-1), 780 * 60);
            Due.is("THROWERS stay", x.count(0), 1);
            Due.is("keep(" + image + ")", x.keep(image), 780 * 60);
            Due.is("back(" + (1 - image) + ")", x.back(1 - image), Due.STATE);
            Due.is("back(" + image + ")", x.back(image), 780 * 60);
        }
    }

    private static void keepsDryAndEmpty() {
        Due.sentence("4: IMAGES keep THE LANE and THROWERS (dry and without THROWERS, too)");
        OilLane x = new OilLane();
        Due.is("keep(0) of a new object", x.keep(0), 0);
        Due.tell(x, 0, SLICK).lay(0);
        for (int t = 0; t < 4; t++) {
            x.thrower(17, 1, 5, t, 1);
        }
        x.evening(2);
        Due.is("keep(1)", x.keep(1), x.oil(-1));
        Due.is("back(0)", x.back(0), 0);
        Due.is("no THROWERS", x.count(0), 0);
        Due.is("stands(0, 0)", x.stands(0, 0), Due.NO);
        Due.is("thrower() from 0 again", x.thrower(3, 0, 0, 0, 0), 0);
        x.back(1);
        Due.is("four THROWERS", x.count(0), 4);
        Due.is("a fifth", x.thrower(3, 0, 0, 0, 0), Due.FULL);
        // from 17 it came HIGH and moved to 15, from there neither
        for (int t = 0; t < 4; t++) {
            int[] want = {15, 1, 5, t, 1, 0};
            for (int what = 0; what < 6; what++) {
                Due.is("stands(" + t + ", " + what + ")", x.stands(t, what), want[what]);
            }
        }
    }

    private static void keepsTheRow() {
        Due.sentence("4: IMAGES keep .. THROWERS (with how many HIGH or LIGHT ones they had in a row)");
        OilLane x = Due.slick();
        x.thrower(17, 1, 0, 5, 0);
        x.thrower(17, 1, 0, 5, 2);
        x.evening(3);
        x.keep(0);
        x.evening(1);
        Due.is("RULE 0", x.stands(0, 5), 4);
        Due.is("RULE 2", x.stands(1, 5), 0);
        x.back(0);
        Due.is("RULE 0 as kept", x.stands(0, 5), 3);
        Due.is("RULE 2 as kept", x.stands(1, 5), 1);
        Due.is("its BALL as kept", x.stands(1, 3), 0);
        x.evening(1);
        Due.is("the next is the second", x.stands(1, 3), 1);
    }

    private static void nothingElse() {
        Due.sentence("4: IMAGES 0, 1 keep THE LANE and THROWERS; nothing else");
        OilLane x = Due.slick();
        x.keep(0);
        x.shot(20, 0, 0, 0);
        x.worth(0);
        x.ball(0, 0, 9);
        x.ball(0, 1, 16);
        x.roll(5);
        x.scatter(0, 2, 0, 3);
        x.clue(0, 0, 0, 0, 5);
        Due.tell(x, 1, "");
        Due.type(x, "abc");
        Due.is("back(0)", x.back(0), 780 * 60);
        Due.is("the latest SHOT", x.came(0), 205);
        Due.is("THE TRACE", x.trace(), 1);
        Due.is("SKIN", x.ball(0, 0, 9), 9);
        Due.is("WEIGHT", x.ball(0, 1, 16), 16);
        Due.is("the GAME", x.game(0), 1);
        Due.is("SCATTER", x.scatter(0, 0, 0, 0), 3);
        Due.is("CLUES", x.count(1), 1);
        Due.is("PATTERNS", x.count(3), 3);
        Due.is("THE TEXT", x.count(2), 3);
        Due.is("the other IMAGE", x.back(1), Due.STATE);
    }

    // ---- counts

    private static void counts() {
        Due.sentence("Promise 31: 0 THROWERS, 1 CLUES, 2 bytes of THE TEXT, 3 PATTERNS that were told, as bits. BAD");
        OilLane x = new OilLane();
        for (int what : new int[] {-1, 4, Due.LOWEST, Due.HIGHEST}) {
            Due.is("count(" + what + ")", x.count(what), Due.BAD);
        }
        for (int what = 0; what < 4; what++) {
            Due.is("count(" + what + ") of a new object", x.count(what), 0);
        }
        x.thrower(0, 0, 0, 0, 0);
        x.clue(0, 0, 0, 0, 5);
        x.clue(0, 0, 0, 0, 5);
        x.pattern(3);
        Due.type(x, "abc");
        int[] want = {1, 2, 3, 8};
        for (int what = 0; what < 4; what++) {
            Due.is("count(" + what + ")", x.count(what), want[what]);
        }
    }

    public static void main(String[] args) {
        clues();
        sixAtMost();
        badAheadOfFull();
        sixthCounts();
        justSo();
        laidFresh();
        whichFit();
        trunks();
        byFives();
        byThrees();
        handOfTrunk();
        trunkOfNone();
        trunkRefuses();
        toldPatternsCount();
        spares();
        spareOfNone();
        spareRefuses();
        noWorth();
        kinds();
        worthInTheGutter();
        traceGrows();
        images();
        noneKept();
        keepsDryAndEmpty();
        keepsTheRow();
        nothingElse();
        counts();
        Due.end();
    }
}
