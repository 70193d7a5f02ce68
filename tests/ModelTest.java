import java.util.ArrayList;
import java.util.Arrays;
import java.util.List;
import java.util.Random;
import java.util.regex.Matcher;
import java.util.regex.Pattern;

/**
 * Long runs of chosen-by-chance calls on OilLane beside a second, slow reading of the document that was
 * written apart from the class: every answer must be the same, and nothing may be thrown.
 */
public final class ModelTest {
    /** An object is used for 512 calls at most; a step may need many, so steps begin well ahead of that. */
    private static final int RUNS = 400, CALLS = 512, LAST_STEP = 380;

    /** The second reading. It copies whole states, searches without short cuts and shares no code with the class. */
    static final class Model {
        static final int BAD = -1, STATE = -2, FULL = -3, NO = -1000000;
        static final int[][] ROW_PINS = {{0}, {1, 2}, {3, 4, 5}, {6, 7, 8, 9}};
        static final int[] TENTHS = {195, 165, 225, 135, 195, 255, 105, 165, 225, 285};

        StringBuilder text = new StringBuilder();
        String[] told = new String[4];
        int[][] lane = new int[39][20];
        int[] skin = {2, 3, 4, 5, 6, 7};
        int[] weight = {12, 12, 12, 12, 12, 12};
        int[] last;
        List<Integer> rolls = new ArrayList<>();
        int[][] hands = new int[4][];
        List<int[]> throwers = new ArrayList<>();
        List<int[]> clues = new ArrayList<>();
        int[][][] keptLane = new int[2][][];
        List<List<int[]>> keptThrowers = new ArrayList<>(Arrays.asList(null, null));
        long trace;

        Model() {
            for (int h = 0; h < 4; h++) {
                hands[h] = new int[] {0, 2, 6, 2, 0};
            }
        }

        static boolean in(int v, int lo, int hi) {
            return lo <= v && v <= hi;
        }

        static int[][] copy(int[][] cells) {
            int[][] other = new int[cells.length][];
            for (int k = 0; k < cells.length; k++) {
                other[k] = cells[k].clone();
            }
            return other;
        }

        static List<int[]> copy(List<int[]> rows) {
            List<int[]> other = new ArrayList<>();
            for (int[] row : rows) {
                other.add(row.clone());
            }
            return other;
        }

        static int allDrops(int[][] cells) {
            int all = 0;
            for (int[] board : cells) {
                for (int d : board) {
                    all += d;
                }
            }
            return all;
        }

        int type(long v, int n) {
            if (!in(n, 1, 8)) {
                return BAD;
            }
            if (text.length() + n > 300) {
                return FULL;
            }
            for (int k = 0; k < n; k++) {
                text.append((char) ((v >> (8 * (n - 1 - k))) & 0xff));
            }
            return text.length();
        }

        int clear() {
            int n = text.length();
            text = new StringBuilder();
            return n;
        }

        /** Items as {A, B, S, T, N} or {S, T}; a single {fault} if the text has one. */
        static List<int[]> read(String text, boolean[] faulty) {
            List<String> tokens = new ArrayList<>();
            List<Integer> places = new ArrayList<>();
            Matcher m = Pattern.compile("[a-z]+|[0-9]+|[^ ]", Pattern.DOTALL).matcher(text);
            while (m.find()) {
                tokens.add(m.group());
                places.add(m.start());
            }
            tokens.add("");
            places.add(text.length());
            List<int[]> items = new ArrayList<>();
            int at = 0;
            while (!tokens.get(at).equals("")) {
                String word = tokens.get(at);
                if (items.size() == 12 || !(word.equals("lay") || word.equals("strip"))) {
                    return fault(places.get(at), faulty);
                }
                at++;
                int[] item = new int[word.equals("lay") ? 5 : 2];
                for (int k = 0; k < item.length; k++, at++) {
                    int lo = 0, hi = 19;
                    if (item.length == 5) {
                        lo = k == 4 ? 1 : 0;
                        hi = k < 2 ? 38 : k < 4 ? 19 : 30;
                        if (k == 1 || k == 3) {
                            lo = item[k - 1];
                        }
                    } else if (k == 1) {
                        lo = item[0];
                    }
                    if (!tokens.get(at).matches("0|[1-9][0-9]?")) {
                        return fault(places.get(at), faulty);
                    }
                    item[k] = Integer.parseInt(tokens.get(at));
                    if (!in(item[k], lo, hi)) {
                        return fault(places.get(at), faulty);
                    }
                }
                if (!tokens.get(at).equals(";")) {
                    return fault(places.get(at), faulty);
                }
                at++;
                items.add(item);
            }
            return items;
        }

        static List<int[]> fault(int place, boolean[] faulty) {
            faulty[0] = true;
            List<int[]> one = new ArrayList<>();
            one.add(new int[] {place});
            return one;
        }

        int pattern(int k) {
            if (!in(k, 0, 3)) {
                return BAD;
            }
            boolean[] faulty = new boolean[1];
            List<int[]> items = read(text.toString(), faulty);
            if (faulty[0]) {
                return -10 - items.get(0)[0];
            }
            told[k] = text.toString();
            clear();
            return items.size();
        }

        int[][] fresh(int k) {
            int[][] cells = new int[39][20];
            for (int[] item : read(told[k], new boolean[1])) {
                for (int b = 0; b < 39; b++) {
                    for (int s = 0; s < 20; s++) {
                        if (item.length == 2 && in(s, item[0], item[1])) {
                            cells[b][s] = 0;
                        } else if (item.length == 5 && in(b, item[0], item[1]) && in(s, item[2], item[3])) {
                            cells[b][s] = Math.min(99, cells[b][s] + item[4]);
                        }
                    }
                }
            }
            return cells;
        }

        int lay(int k) {
            if (!in(k, 0, 3)) {
                return BAD;
            }
            if (told[k] == null) {
                return STATE;
            }
            lane = fresh(k);
            return allDrops(lane);
        }

        int drops(int board, int stretch) {
            return in(board, 0, 38) && in(stretch, 0, 19) ? lane[board][stretch] : BAD;
        }

        int oil(int stretch) {
            if (!in(stretch, -1, 19)) {
                return BAD;
            }
            int all = 0;
            for (int[] board : lane) {
                for (int s = 0; s < 20; s++) {
                    all += stretch == -1 || stretch == s ? board[s] : 0;
                }
            }
            return all;
        }

        int ball(int k, int what, int v) {
            if (!in(k, 0, 5) || !in(what, 0, 1) || (what == 0 && !in(v, 1, 9)) || (what == 1 && !in(v, 5, 16))) {
                return BAD;
            }
            int[] of = what == 0 ? skin : weight;
            int was = of[k];
            of[k] = v;
            return was;
        }

        static boolean able(int board, int aim, int spin, int ball) {
            return in(board, 0, 38) && in(aim, -20, 20) && in(spin, -30, 30) && in(ball, 0, 5);
        }

        /** {place, slant, turn, film, slid, hooked, bits}; changes the cells it is given. */
        int[] go(int[][] cells, int board, int aim, int spin, int ball, int set) {
            int p = 10 * board + 5, v = aim, r = spin, film = 0, slid = 0, hooked = 0;
            for (int s = 0; s < 20; s++) {
                int b = Math.floorDiv(p, 10);
                int d = cells[b][s];
                int grip = d >= 10 ? 0 : skin[ball] * (10 - d);
                int w = v + (int) ((double) (r * grip) / 100);
                w = w > 40 ? 40 : w < -40 ? -40 : w;
                hooked += w != v ? 1 : 0;
                slid += grip == 0 ? 1 : 0;
                v = w;
                for (int k = 0; k < (grip >= 60 ? 2 : grip >= 20 ? 1 : 0); k++) {
                    r -= Integer.signum(r);
                }
                if (d > 0 && film < 9) {
                    film++;
                    cells[b][s]--;
                } else if (d == 0 && film > 0) {
                    film--;
                    cells[b][s]++;
                }
                p += v;
                if (p < 0 || p > 389) {
                    return new int[] {-1, v, r, film, slid, hooked, 0};
                }
            }
            return new int[] {p, v, r, film, slid, hooked, pinsDown(p, v, weight[ball], set)};
        }

        static int pinsDown(int ball, int slant, int weight, int set) {
            Integer[] waits = new Integer[10];
            boolean[] down = new boolean[10];
            for (int row = 0; row < 4; row++) {
                for (int round = 0; round < 2; round++) {
                    for (int pin : ROW_PINS[row]) {
                        if ((set & (1 << pin)) == 0 || down[pin]) {
                            continue;
                        }
                        int off;
                        if (round == 0) {
                            off = TENTHS[pin] - ball;
                            if (Math.abs(off) > 25) {
                                continue;
                            }
                            ball -= ((off / 5) * 12) / weight;
                        } else {
                            if (waits[pin] == null) {
                                continue;
                            }
                            off = waits[pin];
                        }
                        down[pin] = true;
                        for (int other : row == 3 ? new int[0] : ROW_PINS[row + 1]) {
                            int apart = TENTHS[other] - TENTHS[pin];
                            boolean hit = apart == 30 && off >= -4 || apart == -30 && off <= 4;
                            if (hit && waits[other] == null) {
                                waits[other] = off;
                            }
                        }
                    }
                }
                ball += slant;
            }
            int bits = 0;
            for (int pin = 0; pin < 10; pin++) {
                bits += down[pin] ? 1 << pin : 0;
            }
            return bits;
        }

        int shot(int board, int aim, int spin, int ball) {
            if (!able(board, aim, spin, ball)) {
                return BAD;
            }
            last = go(lane, board, aim, spin, ball, 1023);
            return Integer.bitCount(last[6]);
        }

        int came(int what) {
            return last == null || !in(what, 0, 6) ? NO : last[what];
        }

        int tried(int board, int aim, int spin, int ball) {
            return able(board, aim, spin, ball) ? go(copy(lane), board, aim, spin, ball, 1023)[0] : NO;
        }

        int fall(int place, int slant, int weight, int set) {
            boolean good = in(place, 0, 389) && in(slant, -40, 40) && in(weight, 5, 16) && in(set, 0, 1023);
            return good ? pinsDown(place, slant, weight, set) : BAD;
        }

        /** Frames as lists of rolls; the last may lack some. */
        static List<List<Integer>> frames(List<Integer> rolls) {
            List<List<Integer>> all = new ArrayList<>();
            for (int roll : rolls) {
                if (all.isEmpty() || whole(all, all.size() - 1)) {
                    all.add(new ArrayList<>());
                }
                all.get(all.size() - 1).add(roll);
            }
            return all;
        }

        static boolean whole(List<List<Integer>> all, int k) {
            List<Integer> f = all.get(k);
            if (k < 9) {
                return f.get(0) == 10 || f.size() == 2;
            }
            boolean three = f.get(0) == 10 || f.size() > 1 && f.get(0) + f.get(1) == 10;
            return f.size() == (three ? 3 : 2);
        }

        static boolean over(List<Integer> rolls) {
            List<List<Integer>> all = frames(rolls);
            return all.size() == 10 && whole(all, 9);
        }

        /** The most that the next roll may be. */
        static int room(List<Integer> rolls) {
            List<List<Integer>> all = frames(rolls);
            if (all.isEmpty() || whole(all, all.size() - 1)) {
                return 10;
            }
            List<Integer> f = all.get(all.size() - 1);
            int stand = 10;
            for (int roll : f) {
                stand -= roll;
                stand = stand == 0 ? 10 : stand;
            }
            return stand;
        }

        static int sum(List<Integer> rolls) {
            List<List<Integer>> all = frames(rolls);
            int sum = 0, at = 0;
            for (int k = 0; k < all.size(); k++) {
                List<Integer> f = all.get(k);
                if (whole(all, k)) {
                    int own = 0;
                    for (int roll : f) {
                        own += roll;
                    }
                    sum += own;
                    int more = k == 9 || own < 10 ? 0 : f.size() == 1 ? 2 : 1;
                    for (int j = at + f.size(); j < at + f.size() + more && j < rolls.size(); j++) {
                        sum += rolls.get(j);
                    }
                }
                at += f.size();
            }
            return sum;
        }

        int roll(int pins) {
            if (!in(pins, 0, 10)) {
                return BAD;
            }
            if (over(rolls)) {
                return STATE;
            }
            if (pins > room(rolls)) {
                return BAD;
            }
            rolls.add(pins);
            return rolls.size();
        }

        int game(int what) {
            List<List<Integer>> all = frames(rolls);
            switch (what) {
                case 0: return rolls.size();
                case 1: return sum(rolls);
                case 2: return all.isEmpty() ? 0 : all.size() - (whole(all, all.size() - 1) ? 0 : 1);
                case 3:
                    List<Integer> most = new ArrayList<>(rolls);
                    while (!over(most)) {
                        most.add(room(most));
                    }
                    return sum(most);
                case 4: return over(rolls) ? 1 : 0;
                default: return BAD;
            }
        }

        int anew() {
            int had = rolls.size();
            rolls.clear();
            return had;
        }

        int scatter(int hand, int from, int to, int tenths) {
            if (!in(hand, 0, 3) || !in(from, 0, 4) || !in(to, 0, 4) || !in(tenths, 0, hands[hand][from])) {
                return BAD;
            }
            hands[hand][from] -= tenths;
            hands[hand][to] += tenths;
            return hands[hand][to];
        }

        int meanOn(int[][] cells, int hand, int board, int aim, int spin, int ball) {
            int sum = 0;
            for (int k = -2; k <= 2; k++) {
                if (in(board + k, 0, 38) && hands[hand][k + 2] > 0) {
                    int bits = go(copy(cells), board + k, aim, spin, ball, 1023)[6];
                    sum += hands[hand][k + 2] * Integer.bitCount(bits);
                }
            }
            return sum;
        }

        int mean(int hand, int board, int aim, int spin, int ball) {
            return in(hand, 0, 3) && able(board, aim, spin, ball) ? meanOn(lane, hand, board, aim, spin, ball) : BAD;
        }

        int best(int hand, int spin, int what) {
            if (!in(hand, 0, 3) || !in(spin, -30, 30) || !in(what, 0, 3)) {
                return NO;
            }
            int[] found = {-1, 0, 0, 0};
            for (int ball = 0; ball < 6; ball++) {
                for (int board = 0; board < 39; board++) {
                    for (int aim = -6; aim <= 6; aim++) {
                        int m = meanOn(lane, hand, board, aim, spin, ball);
                        if (m > found[0]) {
                            found = new int[] {m, ball, board, aim};
                        }
                    }
                }
            }
            return found[what];
        }

        int thrower(int board, int aim, int spin, int ball, int rule) {
            if (!able(board, aim, spin, ball) || !in(rule, 0, 2)) {
                return BAD;
            }
            if (throwers.size() == 4) {
                return FULL;
            }
            throwers.add(new int[] {board, aim, spin, ball, rule, 0});
            return throwers.size() - 1;
        }

        int stands(int t, int what) {
            return in(t, 0, throwers.size() - 1) && in(what, 0, 5) ? throwers.get(t)[what] : NO;
        }

        /** Pins of each thrower; changes cells and throwers that it is given. */
        int[] rounds(int[][] cells, List<int[]> who, int n, int[] order, boolean thrown) {
            int[] pins = new int[4];
            for (int k = 0; k < n; k++) {
                for (int t : order) {
                    int[] one = who.get(t);
                    int[] came = go(cells, one[0], one[1], one[2], one[3], 1023);
                    if (thrown) {
                        last = came;
                    }
                    pins[t] += Integer.bitCount(came[6]);
                    move(one, came);
                }
            }
            return pins;
        }

        static void move(int[] one, int[] came) {
            int p = came[0], v = came[1], side = Integer.signum(one[2]);
            boolean high = p != -1 && (v > 0 && p >= 195 || v < 0 && p <= 195);
            boolean light = p != -1 && (v > 0 && p <= 160 || v < 0 && p >= 230);
            one[5] = high || light ? one[5] + 1 : 0;
            if (one[4] == 1 && (high || light)) {
                one[0] += high ? -2 * side : side;
                one[0] = one[0] < 0 ? 0 : one[0] > 38 ? 38 : one[0];
            }
            if (one[4] == 2 && one[5] == 2) {
                one[3] = (one[3] + 1) % 6;
                one[5] = 0;
            }
        }

        int[] asTheyCame() {
            int[] order = new int[throwers.size()];
            for (int k = 0; k < order.length; k++) {
                order[k] = k;
            }
            return order;
        }

        static int all(int[] pins) {
            return pins[0] + pins[1] + pins[2] + pins[3];
        }

        int evening(int n) {
            return in(n, 1, 20) ? all(rounds(lane, throwers, n, asTheyCame(), true)) : BAD;
        }

        int would(int n, int t) {
            if (!in(n, 1, 20) || !in(t, -1, throwers.size() - 1)) {
                return BAD;
            }
            int[] pins = rounds(copy(lane), copy(throwers), n, asTheyCame(), false);
            return t == -1 ? all(pins) : pins[t];
        }

        int order(int n, int what) {
            if (!in(n, 1, 20) || !in(what, 0, 1)) {
                return BAD;
            }
            int size = throwers.size(), most = -1, which = 0;
            for (int code = 0; code < Math.pow(10, size); code++) {
                int[] order = new int[size];
                int seen = 0;
                for (int k = size - 1, rest = code; k >= 0; k--, rest /= 10) {
                    order[k] = rest % 10;
                    seen |= 1 << order[k];
                }
                if (seen != (1 << size) - 1) {
                    continue;
                }
                int pins = all(rounds(copy(lane), copy(throwers), n, order, false));
                if (pins > most) {
                    most = pins;
                    which = code;
                }
            }
            return what == 0 ? most : which;
        }

        int clue(int board, int aim, int spin, int ball, int place) {
            if (!able(board, aim, spin, ball) || !in(place, -1, 389)) {
                return BAD;
            }
            if (clues.size() == 6) {
                return FULL;
            }
            clues.add(new int[] {board, aim, spin, ball, place});
            return clues.size();
        }

        int fits() {
            int bits = 0;
            for (int k = 0; k < 4; k++) {
                if (told[k] == null) {
                    continue;
                }
                int[][] cells = fresh(k);
                boolean all = true;
                for (int[] c : clues) {
                    all &= go(cells, c[0], c[1], c[2], c[3], 1023)[0] == c[4];
                }
                bits += all ? 1 << k : 0;
            }
            return bits;
        }

        int trunk(int k, int spin, int what) {
            if (!in(k, 1, 3) || !in(spin, -30, 30) || !in(what, 0, 1)) {
                return BAD;
            }
            int[] sums = new int[64];
            for (int p = 0; p < 4; p++) {
                if (told[p] == null) {
                    continue;
                }
                int[][] cells = fresh(p);
                int[] of = new int[6];
                for (int ball = 0; ball < 6; ball++) {
                    for (int board = 0; board <= 35; board += 5) {
                        for (int aim = -6; aim <= 6; aim += 3) {
                            of[ball] = Math.max(of[ball], meanOn(cells, 0, board, aim, spin, ball));
                        }
                    }
                }
                for (int set = 0; set < 64; set++) {
                    int top = 0;
                    for (int ball = 0; ball < 6; ball++) {
                        top = (set >> ball) % 2 == 1 ? Math.max(top, of[ball]) : top;
                    }
                    sums[set] += top;
                }
            }
            int chosen = -1;
            for (int set = 63; set >= 0; set--) {
                if (Integer.bitCount(set) == k && (chosen < 0 || sums[set] >= sums[chosen])) {
                    chosen = set;
                }
            }
            return what == 0 ? chosen : sums[chosen];
        }

        int spare(int set, int ball, int what) {
            if (!in(set, 0, 1023) || !in(ball, 0, 5) || !in(what, 0, 2)) {
                return NO;
            }
            int[] found = {-1, 0, 0};
            for (int board = 0; board < 39; board++) {
                for (int aim = -6; aim <= 6; aim++) {
                    int pins = Integer.bitCount(go(copy(lane), board, aim, 0, ball, set)[6]);
                    if (pins > found[0]) {
                        found = new int[] {pins, board, aim};
                    }
                }
            }
            return found[what];
        }

        int worth(int kind) {
            if (!in(kind, 0, 5) || last == null) {
                return NO;
            }
            int pins = Integer.bitCount(last[6]);
            int[] answers = {pins, pins + last[5], pins - 1, 2 * (pins - 1), pins + last[5] + last[3], pins - last[4]};
            int[] marks = {1, 11, 101, 1101, 10011, 100001};
            trace += marks[kind];
            return answers[kind];
        }

        int keep(int image) {
            if (!in(image, 0, 1)) {
                return BAD;
            }
            keptLane[image] = copy(lane);
            keptThrowers.set(image, copy(throwers));
            return allDrops(lane);
        }

        int back(int image) {
            if (!in(image, 0, 1)) {
                return BAD;
            }
            if (keptLane[image] == null) {
                return STATE;
            }
            lane = copy(keptLane[image]);
            throwers = copy(keptThrowers.get(image));
            return allDrops(lane);
        }

        int count(int what) {
            int bits = 0;
            for (int k = 0; k < 4; k++) {
                bits += told[k] == null ? 0 : 1 << k;
            }
            switch (what) {
                case 0: return throwers.size();
                case 1: return clues.size();
                case 2: return text.length();
                case 3: return bits;
                default: return BAD;
            }
        }
    }

    private static final int[] ODD = {Integer.MIN_VALUE, -1000, -3, -2, -1, 0, 1, 39, 1024, Integer.MAX_VALUE};
    private final Random chance;
    private final OilLane lane = new OilLane();
    private final Model model = new Model();
    private final StringBuilder log = new StringBuilder();
    private final int oddness;
    private int calls = 0;

    private ModelTest(long seed) {
        chance = new Random(seed);
        oddness = seed % 2 == 0 ? 40 : 200;
    }

    /** Mostly within the bounds, at times just or far outside of them. */
    private int pick(int lo, int hi) {
        int kind = chance.nextInt(oddness);
        if (kind == 0) {
            return ODD[chance.nextInt(ODD.length)];
        }
        if (kind == 1) {
            return chance.nextBoolean() ? lo - 1 : hi + 1;
        }
        if (kind < 6) {
            return chance.nextBoolean() ? lo : hi;
        }
        return lo + chance.nextInt(hi - lo + 1);
    }

    private String randomText() {
        StringBuilder b = new StringBuilder();
        int items = chance.nextInt(8) == 0 ? 11 + chance.nextInt(3) : chance.nextInt(5);
        for (int k = 0; k < items; k++) {
            String gap = chance.nextInt(6) == 0 ? "  " : " ";
            int s = chance.nextInt(20), t = s + chance.nextInt(20 - s);
            if (chance.nextInt(5) == 0 || items > 10) {
                b.append("strip").append(gap).append(s).append(' ').append(t);
            } else {
                int a = chance.nextInt(39), z = a + chance.nextInt(39 - a);
                b.append("lay ").append(a).append(gap).append(z).append(' ').append(s / 2).append(' ').append(t);
                b.append(' ').append(1 + chance.nextInt(chance.nextBoolean() ? 30 : 5));
            }
            b.append(chance.nextInt(4) == 0 ? " ;" : ";").append(chance.nextInt(4) == 0 ? " " : "");
        }
        if (chance.nextInt(3) == 0 && b.length() > 0) {
            String signs = "  ;;0019alystrip5Z\t\u00e9";
            int at = chance.nextInt(b.length());
            switch (chance.nextInt(3)) {
                case 0: b.deleteCharAt(at); break;
                case 1: b.setCharAt(at, signs.charAt(chance.nextInt(signs.length()))); break;
                default: b.insert(at, signs.charAt(chance.nextInt(signs.length())));
            }
        }
        return b.toString();
    }

    private boolean same(String call, long got, long due) {
        calls++;
        log.append(call).append(" -> ").append(got).append('\n');
        if (got != due) {
            System.out.println(log.append("due is ").append(due));
        }
        return got == due;
    }

    private boolean typeText(String s) {
        boolean good = true;
        for (int at = 0; at < s.length(); ) {
            int n = Math.min(s.length() - at, 1 + chance.nextInt(8));
            long v = chance.nextLong();
            for (int k = 0; k < n; k++) {
                v = v << 8 | s.charAt(at + k);
            }
            good &= same("type(" + v + "L, " + n + ")", lane.type(v, n), model.type(v, n));
            at += n;
        }
        return good;
    }

    private boolean tellPattern() {
        int k = pick(0, 3);
        boolean good = typeText(randomText());
        good &= same("pattern(" + k + ")", lane.pattern(k), model.pattern(k));
        if (chance.nextInt(3) > 0) {
            good &= same("clear()", lane.clear(), model.clear());
        }
        return good;
    }

    private int[] numbers(int... bounds) {
        int[] v = new int[bounds.length / 2];
        for (int k = 0; k < v.length; k++) {
            v[k] = pick(bounds[2 * k], bounds[2 * k + 1]);
        }
        return v;
    }

    private boolean cheap() {
        int[] s = numbers(0, 38, -20, 20, -30, 30, 0, 5);
        if (chance.nextInt(3) > 0) {
            s = numbers(8, 30, -6, 6, -12, 12, 0, 5);
        }
        switch (chance.nextInt(26)) {
            case 0: return tellPattern();
            case 1: return one("lay", numbers(0, 3), a -> lane.lay(a[0]), a -> model.lay(a[0]));
            case 2: return one("drops", numbers(0, 38, 0, 19), a -> lane.drops(a[0], a[1]), a -> model.drops(a[0], a[1]));
            case 3: return one("oil", numbers(-1, 19), a -> lane.oil(a[0]), a -> model.oil(a[0]));
            case 4: return one("ball", numbers(0, 5, 0, 0, 1, 9), a -> lane.ball(a[0], a[1], a[2]), a -> model.ball(a[0], a[1], a[2]));
            case 5: return one("ball", numbers(0, 5, 1, 1, 5, 16), a -> lane.ball(a[0], a[1], a[2]), a -> model.ball(a[0], a[1], a[2]));
            case 6: case 7: case 8: return shotAndAll(s);
            case 9: return one("tried", s, a -> lane.tried(a[0], a[1], a[2], a[3]), a -> model.tried(a[0], a[1], a[2], a[3]));
            case 10: case 11: return one("fall", numbers(0, 389, -40, 40, 5, 16, 0, 1023), a -> lane.fall(a[0], a[1], a[2], a[3]), a -> model.fall(a[0], a[1], a[2], a[3]));
            case 12: case 13: case 14: return rollSome();
            case 15: return chance.nextInt(4) > 0 || same("anew()", lane.anew(), model.anew());
            case 16: return one("scatter", numbers(0, 3, 0, 4, 0, 4, 0, 3), a -> lane.scatter(a[0], a[1], a[2], a[3]), a -> model.scatter(a[0], a[1], a[2], a[3]));
            case 17: int hand = pick(0, 3);
                return one("mean of hand " + hand, s, a -> lane.mean(hand, a[0], a[1], a[2], a[3]), a -> model.mean(hand, a[0], a[1], a[2], a[3]));
            case 18: int rule = pick(0, 2);
                return one("thrower with rule " + rule, s, a -> lane.thrower(a[0], a[1], a[2], a[3], rule), a -> model.thrower(a[0], a[1], a[2], a[3], rule));
            case 19: return one("evening", numbers(1, 20), a -> lane.evening(a[0]), a -> model.evening(a[0])) && standsAll();
            case 20: return one("would", numbers(1, 20, -1, 3), a -> lane.would(a[0], a[1]), a -> model.would(a[0], a[1]));
            case 21: return addClue(s);
            case 22: return same("fits()", lane.fits(), model.fits());
            case 23: return one("keep", numbers(0, 1), a -> lane.keep(a[0]), a -> model.keep(a[0]));
            case 24: return one("back", numbers(0, 1), a -> lane.back(a[0]), a -> model.back(a[0])) && standsAll();
            default: return one("count", numbers(0, 3), a -> lane.count(a[0]), a -> model.count(a[0]));
        }
    }

    private boolean dear() {
        switch (chance.nextInt(4)) {
            case 0: return one("best", numbers(0, 3, -30, 30, 0, 3), a -> lane.best(a[0], a[1], a[2]), a -> model.best(a[0], a[1], a[2]));
            case 1: return one("order", numbers(1, 20, 0, 1), a -> lane.order(a[0], a[1]), a -> model.order(a[0], a[1]));
            case 2: return one("trunk", numbers(1, 3, -30, 30, 0, 1), a -> lane.trunk(a[0], a[1], a[2]), a -> model.trunk(a[0], a[1], a[2]));
            default: return one("spare", numbers(0, 1023, 0, 5, 0, 2), a -> lane.spare(a[0], a[1], a[2]), a -> model.spare(a[0], a[1], a[2]));
        }
    }

    private interface Call {
        long on(int[] args);
    }

    private boolean one(String name, int[] args, Call mine, Call other) {
        return same(name + Arrays.toString(args), mine.on(args), other.on(args));
    }

    private boolean shotAndAll(int[] s) {
        boolean good = one("shot", s, a -> lane.shot(a[0], a[1], a[2], a[3]), a -> model.shot(a[0], a[1], a[2], a[3]));
        for (int what = -1; what <= 7; what++) {
            good &= same("came(" + what + ")", lane.came(what), model.came(what));
        }
        int kind = pick(0, 5);
        good &= same("worth(" + kind + ")", lane.worth(kind), model.worth(kind));
        return good && same("trace()", lane.trace(), model.trace);
    }

    private boolean standsAll() {
        int t = pick(0, 3);
        boolean good = true;
        for (int what = -1; what <= 6; what++) {
            good &= same("stands(" + t + ", " + what + ")", lane.stands(t, what), model.stands(t, what));
        }
        return good;
    }

    private boolean rollSome() {
        boolean good = true;
        for (int k = chance.nextInt(4); k >= 0; k--) {
            int pins = chance.nextInt(3) == 0 ? 10 : chance.nextInt(3) == 0 ? Model.room(model.rolls) : pick(0, 10);
            good &= same("roll(" + pins + ")", lane.roll(pins), model.roll(pins));
        }
        int what = pick(0, 4);
        return good && same("game(" + what + ")", lane.game(what), model.game(what));
    }

    /** Half of the clues tell what a told pattern would do, so that some of them fit. */
    private boolean addClue(int[] s) {
        int place = pick(-1, 389);
        if (chance.nextInt(4) > 0 && Model.able(s[0], s[1], s[2], s[3])) {
            int k = chance.nextInt(4);
            int[][] cells = model.told[k] == null ? new int[39][20] : model.fresh(k);
            for (int[] c : model.clues) {
                model.go(cells, c[0], c[1], c[2], c[3], 1023);
            }
            place = model.go(cells, s[0], s[1], s[2], s[3], 1023)[0];
        }
        int at = place;
        return one("clue at " + at, s, a -> lane.clue(a[0], a[1], a[2], a[3], at), a -> model.clue(a[0], a[1], a[2], a[3], at));
    }

    /** A thin film that throwers wear off, so that it matters who comes first. */
    private boolean orderScene() {
        String text = "lay " + chance.nextInt(12) + " " + (26 + chance.nextInt(12)) + " 0 " + (8 + chance.nextInt(11));
        boolean good = same("clear()", lane.clear(), model.clear());
        good &= typeText(text + " " + (5 + chance.nextInt(6)) + ";");
        good &= same("pattern(0)", lane.pattern(0), model.pattern(0));
        good &= same("lay(0)", lane.lay(0), model.lay(0));
        for (int k = chance.nextInt(5); k > 0; k--) {
            int rule = chance.nextInt(3);
            int[] s = {8 + chance.nextInt(23), chance.nextInt(13) - 6, chance.nextInt(31) - 15, chance.nextInt(6)};
            good &= one("thrower with rule " + rule, s, a -> lane.thrower(a[0], a[1], a[2], a[3], rule), a -> model.thrower(a[0], a[1], a[2], a[3], rule));
        }
        int n = 1 + chance.nextInt(20);
        good &= same("order(" + n + ", 1)", lane.order(n, 1), model.order(n, 1));
        return good && same("order(" + n + ", 0)", lane.order(n, 0), model.order(n, 0));
    }

    private boolean run() {
        if (chance.nextBoolean() && !orderScene()) {
            return false;
        }
        int dearLeft = 6;
        while (calls < LAST_STEP) {
            boolean tellDear = dearLeft > 0 && chance.nextInt(20) == 0;
            dearLeft -= tellDear ? 1 : 0;
            if (!(tellDear ? dear() : cheap())) {
                return false;
            }
        }
        return lookAtLane();
    }

    /** Every STRETCH's DROPS, and as many cells as the object's last calls allow. */
    private boolean lookAtLane() {
        boolean good = true;
        for (int s = 0; s < 20 && calls < CALLS; s++) {
            good &= same("oil(" + s + ")", lane.oil(s), model.oil(s));
        }
        while (calls < CALLS) {
            int b = chance.nextInt(39), s = chance.nextInt(20);
            good &= same("drops(" + b + ", " + s + ")", lane.drops(b, s), model.drops(b, s));
        }
        return good && calls == CALLS;
    }

    public static void main(String[] args) {
        int wrong = 0;
        int runs = args.length > 0 ? Integer.parseInt(args[0]) : RUNS;
        for (int seed = 0; seed < runs && wrong < 3; seed++) {
            ModelTest one = new ModelTest(seed);
            try {
                if (!one.run()) {
                    wrong++;
                    System.out.println("seed " + seed + " went apart");
                }
            } catch (RuntimeException thrown) {
                wrong++;
                System.out.println(one.log);
                thrown.printStackTrace(System.out);
            }
        }
        System.out.println(wrong == 0 ? runs + " runs are as the model has them" : wrong + " runs went apart");
        if (wrong != 0) {
            System.exit(1);
        }
    }
}
