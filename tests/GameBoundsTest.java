/** Bounds of a GAME and its ROLLS: a test for each sentence that names one. */
public final class GameBoundsTest {
    private static final int[] NINE_STRIKES = {10, 10, 10, 10, 10, 10, 10, 10, 10};
    private static final int[] NINE_EMPTY = new int[18];

    private static OilLane rolled(int[] first, int... then) {
        OilLane x = new OilLane();
        for (int p : first) {
            x.roll(p);
        }
        for (int p : then) {
            x.roll(p);
        }
        return x;
    }

    private static void gameIs(String told, OilLane x, int rolls, int sum, int frames, int most, int over) {
        int[] want = {rolls, sum, frames, most, over};
        for (int what = 0; what < 5; what++) {
            Due.is(told + ": game(" + what + ")", x.game(what), want[what]);
        }
    }

    /** The next ROLL may be 0 .. room and no more; what is refused changes nothing. */
    private static void roomIs(String told, int room, int[] first, int... then) {
        int size = first.length + then.length;
        for (int pins = 0; pins <= 10; pins++) {
            OilLane x = rolled(first, then);
            int sum = x.game(1);
            int most = x.game(3);
            boolean fine = pins <= room;
            Due.is(told + ", then " + pins, x.roll(pins), fine ? size + 1 : Due.BAD);
            Due.is(told + ", then " + pins + ": ROLLS", x.game(0), fine ? size + 1 : size);
            if (!fine) {
                Due.is(told + ", then " + pins + ": SUM", x.game(1), sum);
                Due.is(told + ", then " + pins + ": MOST", x.game(3), most);
            }
        }
    }

    /** The GAME is over: every ROLL is STATE, what is none BAD, and nothing changes. */
    private static void isOver(String told, OilLane x, int rolls, int sum) {
        for (int pins = 0; pins <= 10; pins++) {
            Due.is(told + ": roll(" + pins + ")", x.roll(pins), Due.STATE);
        }
        Due.is(told + ": roll(-1)", x.roll(-1), Due.BAD);
        Due.is(told + ": roll(11)", x.roll(11), Due.BAD);
        gameIs(told, x, rolls, sum, 10, sum, 1);
    }

    private static void eachRoll() {
        Due.sentence("3: ROLLS told one by one .., 0 .. 10 each");
        OilLane x = new OilLane();
        for (int pins : new int[] {-1, 11, Due.LOWEST, Due.HIGHEST}) {
            Due.is("roll(" + pins + ")", x.roll(pins), Due.BAD);
        }
        gameIs("nothing changed", x, 0, 0, 0, 300, 0);
        roomIs("the first", 10, new int[0]);
    }

    private static void twentyOne() {
        Due.sentence("3: (21 at most)");
        OilLane x = rolled(NINE_EMPTY);
        Due.is("the 19th", x.roll(10), 19);
        Due.is("the 20th", x.roll(10), 20);
        Due.is("not over", x.game(4), 0);
        Due.is("the 21st", x.roll(10), 21);
        isOver("21 ROLLS", x, 21, 30);
        x = rolled(NINE_EMPTY, 0, 10);
        Due.is("the 21st behind a spare", x.roll(10), 21);
        isOver("21 ROLLS with a spare", x, 21, 20);
        isOver("20 ROLLS", rolled(NINE_EMPTY, 0, 0), 20, 0);
        isOver("12 ROLLS", rolled(NINE_STRIKES, 10, 10, 10), 12, 300);
        isOver("11 ROLLS", rolled(NINE_STRIKES, 0, 0), 11, 7 * 30 + 20 + 10);
    }

    private static void strikes() {
        Due.sentence("3: a strike (10 with the first ROLL) ends a FRAME");
        gameIs("a strike", rolled(new int[] {10}), 1, 10, 1, 300, 0);
        roomIs("behind a strike", 10, new int[] {10});
        gameIs("9 is none", rolled(new int[] {9}), 1, 0, 0, 290, 0);
        // 10 with the second ROLL is a spare: the next one alone comes to it
        gameIs("0 and 10", rolled(new int[] {0, 10}), 2, 10, 1, 290, 0);
        gameIs("0, 10, 3, 4", rolled(new int[] {0, 10, 3, 4}), 4, 20, 2, 20 + 240, 0);
    }

    private static void twoRolls() {
        Due.sentence("3: else two ROLLS, 10 together at most");
        for (int first = 0; first < 10; first++) {
            roomIs(first + " in the first FRAME", 10 - first, new int[] {first});
            roomIs(first + " in the second", 10 - first, new int[] {10}, first);
            roomIs(first + " in the ninth", 10 - first, new int[] {10, 10, 10, 10, 10, 10, 10, 10}, first);
            roomIs(first + " behind two ROLLS", 10, new int[] {first, 0});
        }
        Due.is("no FRAME with one ROLL", rolled(new int[] {4}).game(2), 0);
        Due.is("a FRAME with two", rolled(new int[] {4, 0}).game(2), 1);
    }

    private static void tenFrames() {
        Due.sentence("3: ten FRAMES");
        OilLane x = rolled(NINE_EMPTY);
        gameIs("nine", x, 18, 0, 9, 30, 0);
        x.roll(3);
        gameIs("nine, and one ROLL", x, 19, 0, 9, 20, 0);
        x.roll(4);
        gameIs("ten", x, 20, 7, 10, 7, 1);
        gameIs("nine strikes", rolled(NINE_STRIKES), 9, 7 * 30 + 20 + 10, 9, 300, 0);
    }

    private static void tenthSecond() {
        Due.sentence("3: in the tenth .. (behind a strike the second may be 10, else second .. 10 together at most)");
        for (int[] ahead : new int[][] {NINE_STRIKES, NINE_EMPTY}) {
            roomIs("tenth: its first", 10, ahead);
            roomIs("tenth: behind a strike", 10, ahead, 10);
            for (int first = 0; first < 10; first++) {
                roomIs("tenth: behind " + first, 10 - first, ahead, first);
            }
        }
    }

    private static void tenthThird() {
        Due.sentence("3: in the tenth three ROLLS, if the first is a strike or both are 10 together");
        for (int[] ahead : new int[][] {NINE_STRIKES, NINE_EMPTY}) {
            roomIs("tenth: behind two strikes", 10, ahead, 10, 10);
            for (int first = 0; first < 10; first++) {
                roomIs("tenth: behind a spare of " + first, 10, ahead, first, 10 - first);
                Due.is("a spare of " + first + " is not over", rolled(ahead, first, 10 - first).game(4), 0);
                Due.is("9 together are over", rolled(ahead, first, 9 - first).game(4), 1);
                Due.is("9 together: one more", rolled(ahead, first, 9 - first).roll(0), Due.STATE);
            }
        }
        Due.is("a strike and 0 is not over", rolled(NINE_EMPTY, 10, 0).game(4), 0);
    }

    private static void tenthThirdBehindStrike() {
        Due.sentence("3: (behind a strike the second may be 10, else second and third 10 together at most)");
        for (int[] ahead : new int[][] {NINE_STRIKES, NINE_EMPTY}) {
            for (int second = 0; second < 10; second++) {
                roomIs("tenth: behind a strike and " + second, 10 - second, ahead, 10, second);
            }
        }
    }

    private static void sums() {
        Due.sentence("3: SUM: for each FRAME that has all its ROLLS: these");
        gameIs("none", new OilLane(), 0, 0, 0, 300, 0);
        gameIs("half a FRAME", rolled(new int[] {7}), 1, 0, 0, 290, 0);
        gameIs("one", rolled(new int[] {7, 2}), 2, 9, 1, 279, 0);
        gameIs("one and a half", rolled(new int[] {7, 2, 8}), 3, 9, 1, 9 + 20 + 240, 0);
        gameIs("two", rolled(new int[] {7, 2, 8, 1}), 4, 18, 2, 18 + 240, 0);
    }

    private static void behindStrike() {
        Due.sentence("3: behind a strike the next two .. (as far as they were ROLLED)");
        gameIs("none yet", rolled(new int[] {10}), 1, 10, 1, 300, 0);
        gameIs("one yet", rolled(new int[] {10, 4}), 2, 14, 1, 20 + 20 + 240, 0);
        gameIs("both", rolled(new int[] {10, 4, 5}), 3, 19 + 9, 2, 28 + 240, 0);
        gameIs("no third", rolled(new int[] {10, 4, 5, 6}), 4, 28, 2, 28 + 20 + 210, 0);
        gameIs("two strikes", rolled(new int[] {10, 10}), 2, 20 + 10, 2, 300, 0);
        gameIs("three", rolled(new int[] {10, 10, 10}), 3, 30 + 20 + 10, 3, 300, 0);
        gameIs("into the tenth", rolled(NINE_STRIKES, 3), 10, 7 * 30 + 23 + 13, 9, 7 * 30 + 23 + 20 + 20, 0);
    }

    private static void behindSpare() {
        Due.sentence("3: behind a spare the next one (as far as they were ROLLED)");
        gameIs("none yet", rolled(new int[] {6, 4}), 2, 10, 1, 290, 0);
        gameIs("one", rolled(new int[] {6, 4, 5}), 3, 15, 1, 15 + 20 + 240, 0);
        gameIs("not the second", rolled(new int[] {6, 4, 5, 2}), 4, 15 + 7, 2, 22 + 240, 0);
        gameIs("9 together are none", rolled(new int[] {6, 3, 5, 2}), 4, 9 + 7, 2, 16 + 240, 0);
        OilLane x = rolled(new int[16], 6, 4, 7);
        gameIs("into the tenth", x, 19, 17, 9, 17 + 20, 0);
    }

    private static void tenthsOwn() {
        Due.sentence("3: (.. in the tenth only its own)");
        gameIs("a strike", rolled(NINE_EMPTY, 10, 7, 2), 21, 19, 10, 19, 1);
        gameIs("two strikes", rolled(NINE_EMPTY, 10, 10, 7), 21, 27, 10, 27, 1);
        gameIs("a spare", rolled(NINE_EMPTY, 8, 2, 7), 21, 17, 10, 17, 1);
        gameIs("10 behind a spare", rolled(NINE_EMPTY, 8, 2, 10), 21, 20, 10, 20, 1);
        gameIs("a spare behind a strike", rolled(NINE_EMPTY, 10, 8, 2), 21, 20, 10, 20, 1);
        gameIs("not yet all its ROLLS", rolled(NINE_EMPTY, 10, 8), 20, 0, 9, 20, 0);
        gameIs("not yet, behind a spare", rolled(NINE_EMPTY, 2, 8), 20, 0, 9, 20, 0);
    }

    private static void most() {
        Due.sentence("3: MOST: SUM, if all ROLLS from now on are the most that may be");
        Due.is("from the first", new OilLane().game(3), 300);
        for (int first = 0; first < 10; first++) {
            Due.is("behind " + first, rolled(new int[] {first}).game(3), 290);
            Due.is("behind a strike and " + first, rolled(new int[] {10, first}).game(3), 280);
            Due.is("tenth: behind " + first, rolled(NINE_EMPTY, first).game(3), 20);
            Due.is("tenth: behind a strike and " + first, rolled(NINE_EMPTY, 10, first).game(3), 20);
            Due.is("tenth: behind a spare of " + first, rolled(NINE_EMPTY, first, 10 - first).game(3), 20);
        }
        Due.is("tenth: behind two strikes", rolled(NINE_EMPTY, 10, 10).game(3), 30);
        Due.is("when it is over", rolled(NINE_EMPTY, 10, 10, 1).game(3), 21);
        OilLane x = rolled(new int[] {10, 4});
        x.game(3);
        gameIs("what is only thought of isn't told", x, 2, 14, 1, 280, 0);
        Due.is("the next ROLL", x.roll(6), 3);
    }

    private static void over() {
        Due.sentence("Promise 13: BAD: more than may fall, too; STATE: the GAME is over; BAD ahead of STATE");
        OilLane x = rolled(NINE_EMPTY, 3);
        Due.is("more than may fall", x.roll(8), Due.BAD);
        Due.is("as many as may", x.roll(7), 20);
        Due.is("more than are", x.roll(11), Due.BAD);
        Due.is("one more", x.roll(10), 21);
        Due.is("over", x.roll(0), Due.STATE);
        Due.is("over", x.roll(10), Due.STATE);
        Due.is("BAD ahead of it", x.roll(11), Due.BAD);
        Due.is("BAD ahead of it", x.roll(-1), Due.BAD);
        Due.is("BAD ahead of it", x.roll(Due.LOWEST), Due.BAD);
        Due.is("BAD ahead of it", x.roll(Due.HIGHEST), Due.BAD);
        gameIs("nothing changed", x, 21, 20, 10, 20, 1);
    }

    private static void whatOfAGame() {
        Due.sentence("Promise 14: 0 ROLLS .. 4 whether it is over. BAD");
        for (OilLane x : new OilLane[] {new OilLane(), rolled(new int[] {10, 3}), rolled(NINE_STRIKES, 10, 10, 10)}) {
            for (int what : new int[] {-1, 5, Due.LOWEST, Due.HIGHEST}) {
                Due.is("game(" + what + ")", x.game(what), Due.BAD);
            }
        }
        gameIs("none", new OilLane(), 0, 0, 0, 300, 0);
        gameIs("all", rolled(NINE_STRIKES, 10, 10, 10), 12, 300, 10, 300, 1);
    }

    private static void anew() {
        Due.sentence("Promise 15: The GAME begins anew: ROLLS it had");
        OilLane x = new OilLane();
        Due.is("of none", x.anew(), 0);
        x = rolled(NINE_EMPTY, 10, 10, 10);
        Due.is("of 21", x.anew(), 21);
        gameIs("anew", x, 0, 0, 0, 300, 0);
        Due.is("again", x.anew(), 0);
        Due.is("the first ROLL again", x.roll(10), 1);
        x = rolled(new int[] {4});
        Due.is("of half a FRAME", x.anew(), 1);
        Due.is("all ten stand again", x.roll(10), 1);
    }

    public static void main(String[] args) {
        eachRoll();
        twentyOne();
        strikes();
        twoRolls();
        tenFrames();
        tenthSecond();
        tenthThird();
        tenthThirdBehindStrike();
        sums();
        behindStrike();
        behindSpare();
        tenthsOwn();
        most();
        over();
        whatOfAGame();
        anew();
        Due.end();
    }
}
