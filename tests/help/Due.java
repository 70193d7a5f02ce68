/** What the tests of bounds share: the document's sentence that is looked at, and what is due under it. */
final class Due {
    static final int BAD = OilLane.BAD, STATE = OilLane.STATE, FULL = OilLane.FULL, NO = OilLane.NO;
    static final int LOWEST = Integer.MIN_VALUE, HIGHEST = Integer.MAX_VALUE;
    private static String sentence = "";
    private static int sentences = 0;
    private static int answers = 0;
    private static int wrong = 0;

    private Due() {
    }

    /** All that is due from here on is due by these words of ../shared/DOC.md. */
    static void sentence(String words) {
        sentence = words;
        sentences++;
    }

    static void is(String call, long got, long want) {
        answers++;
        if (got != want) {
            wrong++;
            System.out.println("[" + sentence + "] " + call + " answered " + got + ", due is " + want);
        }
    }

    static void end() {
        System.out.println(sentences + " sentences, " + answers + " answers, " + wrong + " not as due");
        if (wrong != 0) {
            System.exit(1);
        }
    }

    /** THE TEXT gets these bytes, eight with a call, so that few of an object's 512 calls are used. */
    static OilLane type(OilLane x, String text) {
        for (int from = 0; from < text.length(); from += 8) {
            int n = Math.min(8, text.length() - from);
            long v = 0;
            for (int k = 0; k < n; k++) {
                v = v << 8 | text.charAt(from + k);
            }
            x.type(v, n);
        }
        return x;
    }

    static OilLane tell(OilLane x, int k, String text) {
        type(x, text).pattern(k);
        return x;
    }

    static OilLane laid(String text) {
        OilLane x = tell(new OilLane(), 0, text);
        x.lay(0);
        return x;
    }

    /** GRIP is 0 everywhere, for long: a ball comes to 10 * BOARD + 5 + 20 * AIM, whatever its SPIN. */
    static OilLane slick() {
        return laid("lay 0 38 0 19 30;lay 0 38 0 19 30;");
    }

    /** Slick, but for one dry STRETCH: SPIN bends a ball there and nowhere else. */
    static OilLane slickBut(int stretch) {
        return laid("lay 0 38 0 19 30;lay 0 38 0 19 30;strip " + stretch + " " + stretch + ";");
    }

    static int pins(int bits) {
        return Integer.bitCount(bits);
    }

    /** A set of PINS as bits. */
    static int set(int... pins) {
        int bits = 0;
        for (int pin : pins) {
            bits |= 1 << pin;
        }
        return bits;
    }

    static void came(String call, OilLane x, int place, int slant, int turn, int film, int slid, int hooked) {
        int[] want = {place, slant, turn, film, slid, hooked};
        for (int what = 0; what < want.length; what++) {
            is(call + ": came(" + what + ")", x.came(what), want[what]);
        }
    }
}
