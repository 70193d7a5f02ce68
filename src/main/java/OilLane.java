/**
 * A bowling lane with oil on its boards, as ../shared/DOC.md tells it.
 * Words in capitals in the comments are the document's.
 */
public final class OilLane {
    public static final int BAD = -1, STATE = -2, FULL = -3, NONE = -9;
    public static final int NO = -1000000;

    private static final int BOARDS = 39, STRETCHES = 20, CELLS = 780;
    private static final int MOST_DROPS = 99, MOST_FILM = 9;
    private static final int PATTERNS = 4, ITEMS = 12, TEXT_BYTES = 300;
    private static final int BALLS = 6, HANDS = 4, SPREAD = 5;
    private static final int THROWERS = 4, MOST_ORDERS = 24, ROUNDS = 20;
    private static final int CLUES = 6, CLUE_PARTS = 5, IMAGES = 2;
    private static final int PINS = 10, ROWS = 4, ALL_PINS = 1023;
    private static final int GUTTER = -1, LAST_PLACE = 389, HEAD_PLACE = 195;
    private static final int FARTHEST_AIM = 20, FARTHEST_SPIN = 30, FARTHEST_SLANT = 40;
    private static final int SEARCH_AIM = 6, SEARCH_AIMS = 13, MOST_MEAN = 100;
    private static final int LEAST_WEIGHT = 5, MOST_WEIGHT = 16;
    private static final int ROLLS = 21, FRAMES = 10;
    private static final int KINDS = 6;

    private static final int[] PIN_PLACE = {195, 165, 225, 135, 195, 255, 105, 165, 225, 285};
    private static final int[] KIND_ABOVE = {-1, 0, 0, 2, 1, 0};
    private static final int[] KIND_MARK = {1, 10, 100, 1000, 10000, 100000};

    private final Reader text = new Reader();
    private final Pattern[] patterns = new Pattern[PATTERNS];
    private final Ball[] balls = new Ball[BALLS];
    private final Floor floor = new Floor();
    private final Floor scratch = new Floor();
    private final Floor[] images = new Floor[IMAGES];
    private final boolean[] imageKept = new boolean[IMAGES];
    private final Delivery latest = new Delivery();
    private final Delivery probe = new Delivery();
    private final Rack looseRack = new Rack();
    private final Game score = new Game();
    private final Scout scout = new Scout();
    private final int[] clues = new int[CLUES * CLUE_PARTS];
    private final int[] turns = new int[THROWERS];
    private final int[] pinsOf = new int[THROWERS];
    private int clueCount;
    private boolean anyThrown;
    private long traceSum;

    public OilLane() {
        for (int k = 0; k < PATTERNS; k++) {
            patterns[k] = new Pattern();
        }
        for (int k = 0; k < BALLS; k++) {
            balls[k] = new Ball(k + 2);
        }
        for (int k = 0; k < IMAGES; k++) {
            images[k] = new Floor();
        }
    }

    // ---- the lane

    public int type(long v, int n) {
        if (n < 1 || n > 8) {
            return BAD;
        }
        if (text.length + n > TEXT_BYTES) {
            return FULL;
        }
        for (int k = n - 1; k >= 0; k--) {
            text.append((int) (v >>> (8 * k)) & 255);
        }
        return text.length;
    }

    public int clear() {
        int had = text.length;
        text.length = 0;
        return had;
    }

    public int pattern(int k) {
        if (outside(k, 0, PATTERNS - 1)) {
            return BAD;
        }
        int fault = text.findFault();
        if (fault >= 0) {
            return -10 - fault;
        }
        patterns[k].copyFrom(text.draft);
        patterns[k].told = true;
        text.length = 0;
        return patterns[k].size;
    }

    public int lay(int k) {
        if (outside(k, 0, PATTERNS - 1)) {
            return BAD;
        }
        if (!patterns[k].told) {
            return STATE;
        }
        patterns[k].layOn(floor.lane);
        return floor.lane.total(0, STRETCHES - 1);
    }

    public int drops(int board, int stretch) {
        if (outside(board, 0, BOARDS - 1) || outside(stretch, 0, STRETCHES - 1)) {
            return BAD;
        }
        return floor.lane.cells[stretch * BOARDS + board];
    }

    public int oil(int stretch) {
        if (outside(stretch, -1, STRETCHES - 1)) {
            return BAD;
        }
        if (stretch == -1) {
            return floor.lane.total(0, STRETCHES - 1);
        }
        return floor.lane.total(stretch, stretch);
    }

    public int ball(int k, int what, int v) {
        if (outside(k, 0, BALLS - 1) || outside(what, 0, 1)) {
            return BAD;
        }
        return what == 0 ? becomeSkin(balls[k], v) : becomeWeight(balls[k], v);
    }

    private static int becomeSkin(Ball one, int v) {
        if (outside(v, 1, 9)) {
            return BAD;
        }
        int was = one.skin;
        one.skin = v;
        return was;
    }

    private static int becomeWeight(Ball one, int v) {
        if (outside(v, LEAST_WEIGHT, MOST_WEIGHT)) {
            return BAD;
        }
        int was = one.weight;
        one.weight = v;
        return was;
    }

    // ---- shots

    public int shot(int board, int aim, int spin, int ball) {
        if (noSuchShot(board, aim, spin, ball)) {
            return BAD;
        }
        latest.send(floor.lane, board, aim, spin, balls[ball], ALL_PINS, true);
        anyThrown = true;
        return latest.pins();
    }

    public int came(int what) {
        if (!anyThrown) {
            return NO;
        }
        switch (what) {
            case 0: return latest.place;
            case 1: return latest.slant;
            case 2: return latest.turn;
            case 3: return latest.film;
            case 4: return latest.slid;
            case 5: return latest.hooked;
            case 6: return latest.fell;
            default: return NO;
        }
    }

    public int tried(int board, int aim, int spin, int ball) {
        if (noSuchShot(board, aim, spin, ball)) {
            return NO;
        }
        probe.travel(floor.lane, board, aim, spin, balls[ball], false);
        return probe.place;
    }

    public int fall(int place, int slant, int weight, int set) {
        if (outside(place, 0, LAST_PLACE) || outside(slant, -FARTHEST_SLANT, FARTHEST_SLANT)) {
            return BAD;
        }
        if (outside(weight, LEAST_WEIGHT, MOST_WEIGHT) || outside(set, 0, ALL_PINS)) {
            return BAD;
        }
        return looseRack.knock(place, slant, weight, set);
    }

    // ---- games

    public int roll(int pins) {
        if (outside(pins, 0, PINS)) {
            return BAD;
        }
        score.reckon();
        if (score.over) {
            return STATE;
        }
        if (pins > score.room) {
            return BAD;
        }
        score.append(pins);
        return score.size;
    }

    public int game(int what) {
        score.reckon();
        switch (what) {
            case 0: return score.size;
            case 1: return score.sum;
            case 2: return score.frames;
            case 3: return score.mostSum();
            case 4: return score.over ? 1 : 0;
            default: return BAD;
        }
    }

    public int anew() {
        int had = score.size;
        score.size = 0;
        return had;
    }

    // ---- hands

    public int scatter(int hand, int from, int to, int tenths) {
        if (outside(hand, 0, HANDS - 1) || outside(from, 0, SPREAD - 1) || outside(to, 0, SPREAD - 1)) {
            return BAD;
        }
        int[] hands = scout.hands;
        int first = hand * SPREAD;
        if (outside(tenths, 0, hands[first + from])) {
            return BAD;
        }
        hands[first + from] -= tenths;
        hands[first + to] += tenths;
        return hands[first + to];
    }

    public int mean(int hand, int board, int aim, int spin, int ball) {
        if (outside(hand, 0, HANDS - 1) || noSuchShot(board, aim, spin, ball)) {
            return BAD;
        }
        return scout.meanOf(floor.lane, hand, board, aim, spin, balls[ball]);
    }

    public int best(int hand, int spin, int what) {
        if (outside(hand, 0, HANDS - 1) || outside(spin, -FARTHEST_SPIN, FARTHEST_SPIN) || outside(what, 0, 3)) {
            return NO;
        }
        scout.seekBest(floor.lane, hand, spin, balls);
        switch (what) {
            case 0: return scout.most;
            case 1: return scout.mostBall;
            case 2: return scout.mostBoard;
            default: return scout.mostAim;
        }
    }

    // ---- throwers

    public int thrower(int board, int aim, int spin, int ball, int rule) {
        if (noSuchShot(board, aim, spin, ball) || outside(rule, 0, 2)) {
            return BAD;
        }
        if (floor.size >= THROWERS) {
            return FULL;
        }
        floor.throwers[floor.size].begin(board, aim, spin, ball, rule);
        floor.size++;
        return floor.size - 1;
    }

    public int stands(int t, int what) {
        if (outside(t, 0, floor.size - 1)) {
            return NO;
        }
        Thrower one = floor.throwers[t];
        switch (what) {
            case 0: return one.board;
            case 1: return one.aim;
            case 2: return one.spin;
            case 3: return one.ball;
            case 4: return one.rule;
            case 5: return one.inRow;
            default: return NO;
        }
    }

    public int evening(int n) {
        if (outside(n, 1, ROUNDS)) {
            return BAD;
        }
        takeFirstOrder();
        if (floor.size > 0) {
            anyThrown = true;
        }
        return floor.playRounds(n, latest, balls, turns, pinsOf);
    }

    public int would(int n, int t) {
        if (outside(n, 1, ROUNDS) || outside(t, -1, floor.size - 1)) {
            return BAD;
        }
        takeFirstOrder();
        int all = tryRounds(n);
        return t == -1 ? all : pinsOf[t];
    }

    public int order(int n, int what) {
        if (outside(n, 1, ROUNDS) || outside(what, 0, 1)) {
            return BAD;
        }
        int most = -1;
        int figures = 0;
        takeFirstOrder();
        boolean more = true;
        for (int k = 0; k < MOST_ORDERS && more; k++) {
            int all = tryRounds(n);
            if (all > most) {
                most = all;
                figures = orderAsFigures();
            }
            more = takeNextOrder();
        }
        return what == 0 ? most : figures;
    }

    private int tryRounds(int n) {
        scratch.copyFrom(floor);
        return scratch.playRounds(n, probe, balls, turns, pinsOf);
    }

    private void takeFirstOrder() {
        for (int k = 0; k < THROWERS; k++) {
            turns[k] = k;
        }
    }

    /** Orders come as their figures grow, so that the first of equal ones is the least. */
    private boolean takeNextOrder() {
        int size = floor.size;
        int low = size - 2;
        while (low >= 0 && turns[low] > turns[low + 1]) {
            low--;
        }
        if (low < 0) {
            return false;
        }
        int high = size - 1;
        while (high > low && turns[high] < turns[low]) {
            high--;
        }
        swapTurns(low, high);
        for (int a = low + 1, b = size - 1; a < b; a++, b--) {
            swapTurns(a, b);
        }
        return true;
    }

    private void swapTurns(int a, int b) {
        int held = turns[a];
        turns[a] = turns[b];
        turns[b] = held;
    }

    private int orderAsFigures() {
        int figures = 0;
        for (int k = 0; k < floor.size; k++) {
            figures = figures * 10 + turns[k];
        }
        return figures;
    }

    // ---- clues, trunks, spares

    public int clue(int board, int aim, int spin, int ball, int place) {
        if (noSuchShot(board, aim, spin, ball) || outside(place, GUTTER, LAST_PLACE)) {
            return BAD;
        }
        if (clueCount >= CLUES) {
            return FULL;
        }
        int first = clueCount * CLUE_PARTS;
        clues[first] = board;
        clues[first + 1] = aim;
        clues[first + 2] = spin;
        clues[first + 3] = ball;
        clues[first + 4] = place;
        clueCount++;
        return clueCount;
    }

    public int fits() {
        int fitting = 0;
        for (int k = 0; k < PATTERNS; k++) {
            if (patterns[k].told && cluesFit(patterns[k])) {
                fitting |= 1 << k;
            }
        }
        return fitting;
    }

    private boolean cluesFit(Pattern pattern) {
        Lane lane = scratch.lane;
        pattern.layOn(lane);
        for (int k = 0; k < clueCount; k++) {
            int first = k * CLUE_PARTS;
            Ball ball = balls[clues[first + 3]];
            probe.travel(lane, clues[first], clues[first + 1], clues[first + 2], ball, true);
            if (probe.place != clues[first + 4]) {
                return false;
            }
        }
        return true;
    }

    public int trunk(int k, int spin, int what) {
        if (outside(k, 1, 3) || outside(spin, -FARTHEST_SPIN, FARTHEST_SPIN) || outside(what, 0, 1)) {
            return BAD;
        }
        for (int p = 0; p < PATTERNS; p++) {
            boolean told = patterns[p].told;
            if (told) {
                patterns[p].layOn(scratch.lane);
            }
            for (int b = 0; b < BALLS; b++) {
                scout.greatest[p * BALLS + b] = told ? scout.greatestMean(scratch.lane, spin, balls[b]) : 0;
            }
        }
        int set = scout.trunkOf(k);
        return what == 0 ? set : scout.addedBy(set);
    }

    public int spare(int set, int ball, int what) {
        if (outside(set, 0, ALL_PINS) || outside(ball, 0, BALLS - 1) || outside(what, 0, 2)) {
            return NO;
        }
        scout.seekSpare(floor.lane, set, balls[ball]);
        switch (what) {
            case 0: return scout.most;
            case 1: return scout.mostBoard;
            default: return scout.mostAim;
        }
    }

    // ---- kinds, images

    public int worth(int kind) {
        if (outside(kind, 0, KINDS - 1) || !anyThrown) {
            return NO;
        }
        return askKind(kind, 0);
    }

    private int askKind(int kind, int depth) {
        if (outside(kind, 0, KINDS - 1) || depth >= KINDS) {
            return 0;
        }
        traceSum += KIND_MARK[kind];
        int up = askKind(KIND_ABOVE[kind], depth + 1);
        switch (kind) {
            case 1: return up + latest.hooked;
            case 2: return up - 1;
            case 3: return 2 * up;
            case 4: return up + latest.film;
            case 5: return up - latest.slid;
            default: return latest.pins();
        }
    }

    public int keep(int image) {
        if (outside(image, 0, IMAGES - 1)) {
            return BAD;
        }
        images[image].copyFrom(floor);
        imageKept[image] = true;
        return floor.lane.total(0, STRETCHES - 1);
    }

    public int back(int image) {
        if (outside(image, 0, IMAGES - 1)) {
            return BAD;
        }
        if (!imageKept[image]) {
            return STATE;
        }
        floor.copyFrom(images[image]);
        return floor.lane.total(0, STRETCHES - 1);
    }

    public int count(int what) {
        switch (what) {
            case 0: return floor.size;
            case 1: return clueCount;
            case 2: return text.length;
            case 3: return toldPatterns();
            default: return BAD;
        }
    }

    private int toldPatterns() {
        int bits = 0;
        for (int k = 0; k < PATTERNS; k++) {
            if (patterns[k].told) {
                bits |= 1 << k;
            }
        }
        return bits;
    }

    public long trace() {
        return traceSum;
    }

    private static boolean outside(int v, int least, int most) {
        return v < least || v > most;
    }

    private static boolean noSuchShot(int board, int aim, int spin, int ball) {
        return outside(board, 0, BOARDS - 1)
            || outside(aim, -FARTHEST_AIM, FARTHEST_AIM)
            || outside(spin, -FARTHEST_SPIN, FARTHEST_SPIN)
            || outside(ball, 0, BALLS - 1);
    }

    /** DROPS cell by cell, one STRETCH's BOARDS behind another's. */
    private static final class Lane {
        final int[] cells = new int[CELLS];

        void copyFrom(Lane other) {
            System.arraycopy(other.cells, 0, cells, 0, CELLS);
        }

        void dry(int firstStretch, int lastStretch) {
            for (int cell = firstStretch * BOARDS; cell < (lastStretch + 1) * BOARDS; cell++) {
                cells[cell] = 0;
            }
        }

        void spread(int firstBoard, int lastBoard, int stretch, int more) {
            int row = stretch * BOARDS;
            for (int cell = row + firstBoard; cell <= row + lastBoard; cell++) {
                cells[cell] = Math.min(MOST_DROPS, cells[cell] + more);
            }
        }

        int total(int firstStretch, int lastStretch) {
            int all = 0;
            for (int cell = firstStretch * BOARDS; cell < (lastStretch + 1) * BOARDS; cell++) {
                all += cells[cell];
            }
            return all;
        }
    }

    /** ITEMS of a text; a strip is an item that lays 0 DROPS. */
    private static final class Pattern {
        static final int PARTS = 5;
        final int[] items = new int[ITEMS * PARTS];
        int size;
        boolean told;

        void copyFrom(Pattern other) {
            System.arraycopy(other.items, 0, items, 0, ITEMS * PARTS);
            size = other.size;
        }

        /** The caller has seen that every number is within the document's bounds. */
        void append(int firstBoard, int lastBoard, int firstStretch, int lastStretch, int more) {
            if (size >= ITEMS) {
                return;
            }
            int first = size * PARTS;
            items[first] = firstBoard;
            items[first + 1] = lastBoard;
            items[first + 2] = firstStretch;
            items[first + 3] = lastStretch;
            items[first + 4] = more;
            size++;
        }

        void layOn(Lane lane) {
            lane.dry(0, STRETCHES - 1);
            for (int k = 0; k < size; k++) {
                layItem(lane, k * PARTS);
            }
        }

        private void layItem(Lane lane, int first) {
            int more = items[first + 4];
            if (more == 0) {
                lane.dry(items[first + 2], items[first + 3]);
                return;
            }
            for (int stretch = items[first + 2]; stretch <= items[first + 3]; stretch++) {
                lane.spread(items[first], items[first + 1], stretch, more);
            }
        }
    }

    /** THE TEXT, and how it is read into a PATTERN that is a draft until it has no FAULT. */
    private static final class Reader {
        static final int END = 0, LAY = 1, STRIP = 2, NUMBER = 3, SEMICOLON = 4, WRONG = 5;
        final int[] bytes = new int[TEXT_BYTES];
        final Pattern draft = new Pattern();
        int length;
        private int at;
        private int tokenStart;
        private int token;
        private int value;

        void append(int b) {
            if (length < TEXT_BYTES) {
                bytes[length] = b;
                length++;
            }
        }

        /** Where the FAULT is, -1 if there is none; an end that comes too early is a token at the text's length. */
        int findFault() {
            draft.size = 0;
            at = 0;
            for (int k = 0; k <= ITEMS; k++) {
                readToken();
                if (token == END) {
                    return -1;
                }
                if (k == ITEMS || token != LAY && token != STRIP) {
                    return tokenStart;
                }
                boolean numbersStand = token == LAY ? readLay() : readStrip();
                if (!numbersStand) {
                    return tokenStart;
                }
                readToken();
                if (token != SEMICOLON) {
                    return tokenStart;
                }
            }
            return tokenStart;
        }

        private boolean readLay() {
            if (!readNumber(0, BOARDS - 1)) {
                return false;
            }
            int firstBoard = value;
            if (!readNumber(firstBoard, BOARDS - 1)) {
                return false;
            }
            int lastBoard = value;
            if (!readNumber(0, STRETCHES - 1)) {
                return false;
            }
            int firstStretch = value;
            if (!readNumber(firstStretch, STRETCHES - 1)) {
                return false;
            }
            int lastStretch = value;
            if (!readNumber(1, 30)) {
                return false;
            }
            draft.append(firstBoard, lastBoard, firstStretch, lastStretch, value);
            return true;
        }

        private boolean readStrip() {
            if (!readNumber(0, STRETCHES - 1)) {
                return false;
            }
            int firstStretch = value;
            if (!readNumber(firstStretch, STRETCHES - 1)) {
                return false;
            }
            draft.append(0, BOARDS - 1, firstStretch, value, 0);
            return true;
        }

        private boolean readNumber(int least, int most) {
            readToken();
            return token == NUMBER && value >= least && value <= most;
        }

        private void readToken() {
            while (at < length && bytes[at] == ' ') {
                at++;
            }
            tokenStart = at;
            if (at >= length) {
                token = END;
            } else if (bytes[at] == ';') {
                at++;
                token = SEMICOLON;
            } else if (isFigure(bytes[at])) {
                token = readFigures();
            } else if (isLetter(bytes[at])) {
                skipLetters();
                token = wordIs("lay") ? LAY : wordIs("strip") ? STRIP : WRONG;
            } else {
                token = WRONG;
            }
        }

        /** Three figures are above 99 or begin with a 0, so that the value of two can't grow too large. */
        private int readFigures() {
            value = 0;
            while (at < length && isFigure(bytes[at])) {
                if (at - tokenStart < 2) {
                    value = value * 10 + bytes[at] - '0';
                }
                at++;
            }
            int figures = at - tokenStart;
            boolean zeroAhead = figures == 2 && value < 10;
            return figures > 2 || zeroAhead ? WRONG : NUMBER;
        }

        private void skipLetters() {
            while (at < length && isLetter(bytes[at])) {
                at++;
            }
        }

        private boolean wordIs(String word) {
            if (at - tokenStart != word.length()) {
                return false;
            }
            for (int k = 0; k < word.length(); k++) {
                if (bytes[tokenStart + k] != word.charAt(k)) {
                    return false;
                }
            }
            return true;
        }

        private static boolean isFigure(int b) {
            return b >= '0' && b <= '9';
        }

        private static boolean isLetter(int b) {
            return b >= 'a' && b <= 'z';
        }
    }

    private static final class Ball {
        int skin;
        int weight = 12;

        Ball(int skin) {
            this.skin = skin;
        }
    }

    /** PINS, and how they fall. */
    private static final class Rack {
        private final int[] pushOff = new int[PINS];
        private int pushed;
        private int fell;

        int knock(int place, int slant, int weight, int set) {
            if (weight <= 0) {
                return 0;
            }
            pushed = 0;
            fell = 0;
            int at = place;
            int first = 0;
            for (int row = 0; row < ROWS; row++) {
                int last = first + row;
                for (int pin = first; pin <= last; pin++) {
                    int off = PIN_PLACE[pin] - at;
                    if ((set >> pin & 1) != 0 && off >= -25 && off <= 25) {
                        topple(pin, row, off);
                        at -= off / 5 * 12 / weight;
                    }
                }
                int waiting = pushed & set & ~fell;
                for (int pin = first; pin <= last && waiting != 0; pin++) {
                    if ((waiting >> pin & 1) != 0) {
                        topple(pin, row, pushOff[pin]);
                    }
                }
                at += slant;
                first = last + 1;
            }
            return fell;
        }

        /** The PINS 30 less and 30 more in the next ROW are row + 1 and row + 2 numbers on. */
        private void topple(int pin, int row, int off) {
            fell |= 1 << pin;
            if (row >= ROWS - 1) {
                return;
            }
            int from = pin + row + (off > 4 ? 2 : 1);
            int to = pin + row + (off < -4 ? 1 : 2);
            for (int next = from; next <= to; next++) {
                if ((pushed >> next & 1) == 0) {
                    pushed |= 1 << next;
                    pushOff[next] = off;
                }
            }
        }
    }

    /** A SHOT, as it ended. */
    private static final class Delivery {
        private final Rack rack = new Rack();
        int place;
        int slant;
        int turn;
        int film;
        int slid;
        int hooked;
        int fell;

        void send(Lane lane, int board, int aim, int spin, Ball ball, int set, boolean marks) {
            travel(lane, board, aim, spin, ball, marks);
            fell = place == GUTTER ? 0 : rack.knock(place, slant, ball.weight, set);
        }

        int pins() {
            return Integer.bitCount(fell);
        }

        /** No STRETCH is met twice, so a SHOT that leaves no marks goes just as one that does. */
        void travel(Lane lane, int board, int aim, int spin, Ball ball, boolean marks) {
            int[] cells = lane.cells;
            place = board * 10 + 5;
            slant = aim;
            turn = spin;
            film = 0;
            slid = 0;
            hooked = 0;
            for (int row = 0; row < CELLS && place != GUTTER; row += BOARDS) {
                int cell = row + place / 10;
                int there = cells[cell];
                turnOn(ball.skin * Math.max(0, 10 - there));
                int taken = takeOil(there);
                if (marks) {
                    cells[cell] = there - taken;
                }
                place += slant;
                if (place < 0 || place > LAST_PLACE) {
                    place = GUTTER;
                }
            }
        }

        private void turnOn(int grip) {
            if (grip == 0) {
                slid++;
                return;
            }
            int bent = slant + turn * grip / 100;
            bent = Math.max(-FARTHEST_SLANT, Math.min(FARTHEST_SLANT, bent));
            if (bent != slant) {
                hooked++;
                slant = bent;
            }
            int less = grip >= 60 ? 2 : grip >= 20 ? 1 : 0;
            turn = turn > 0 ? Math.max(0, turn - less) : Math.min(0, turn + less);
        }

        /** What FILM gains of a cell with so many DROPS; -1 is what it leaves there. */
        private int takeOil(int there) {
            int taken = 0;
            if (there > 0) {
                taken = film < MOST_FILM ? 1 : 0;
            } else if (film > 0) {
                taken = -1;
            }
            film += taken;
            return taken;
        }
    }

    private static final class Game {
        private final int[] rolls = new int[ROLLS];
        int size;
        int sum;
        int frames;
        int room;
        boolean over;

        void append(int pins) {
            if (size < ROLLS) {
                rolls[size] = pins;
                size++;
            }
        }

        /** Finds sum, frames, whether it is over, and the room: what the next ROLL may be at most. */
        void reckon() {
            sum = 0;
            frames = 0;
            room = PINS;
            over = false;
            int at = 0;
            for (int k = 0; k < FRAMES - 1 && at < size; k++) {
                if (rolls[at] == PINS) {
                    sum += rolled(at) + rolled(at + 1) + rolled(at + 2);
                    at += 1;
                } else if (at + 1 >= size) {
                    room = PINS - rolls[at];
                    return;
                } else {
                    int both = rolls[at] + rolls[at + 1];
                    sum += both == PINS ? both + rolled(at + 2) : both;
                    at += 2;
                }
                frames++;
            }
            if (frames == FRAMES - 1) {
                reckonTenth(at);
            }
        }

        private void reckonTenth(int at) {
            int has = size - at;
            int first = rolled(at);
            int second = rolled(at + 1);
            boolean strike = first == PINS;
            boolean spare = !strike && first + second == PINS;
            if (has == 1) {
                room = strike ? PINS : PINS - first;
            } else if (has == 2) {
                room = strike && second < PINS ? PINS - second : PINS;
            }
            over = has >= (strike || spare ? 3 : 2);
            if (over) {
                sum += first + second + rolled(at + 2);
                frames++;
            }
        }

        private int rolled(int at) {
            return at >= 0 && at < size ? rolls[at] : 0;
        }

        /** The ROLLS that are only thought of stand behind the true ones, and are forgotten by the size. */
        int mostSum() {
            int trueSize = size;
            reckon();
            for (int k = 0; k < ROLLS && !over; k++) {
                append(room);
                reckon();
            }
            int most = sum;
            size = trueSize;
            reckon();
            return most;
        }
    }

    private static final class Thrower {
        int board;
        int aim;
        int spin;
        int ball;
        int rule;
        int inRow;

        void begin(int board, int aim, int spin, int ball, int rule) {
            this.board = board;
            this.aim = aim;
            this.spin = spin;
            this.ball = ball;
            this.rule = rule;
            inRow = 0;
        }

        void copyFrom(Thrower other) {
            begin(other.board, other.aim, other.spin, other.ball, other.rule);
            inRow = other.inRow;
        }

        void learnFrom(Delivery delivery) {
            boolean high = false;
            boolean light = false;
            if (delivery.place != GUTTER && delivery.slant != 0) {
                int beyond = delivery.place - HEAD_PLACE;
                int along = delivery.slant > 0 ? beyond : -beyond;
                high = along >= 0;
                light = along <= -35;
            }
            inRow = high || light ? inRow + 1 : 0;
            if (rule == 1) {
                moveBehind(high, light);
            } else if (rule == 2 && inRow >= 2) {
                ball = ball >= BALLS - 1 ? 0 : ball + 1;
                inRow = 0;
            }
        }

        private void moveBehind(boolean high, boolean light) {
            int side = Integer.compare(spin, 0);
            int moved = board;
            if (high) {
                moved -= 2 * side;
            } else if (light) {
                moved += side;
            }
            board = Math.max(0, Math.min(BOARDS - 1, moved));
        }
    }

    /** What an IMAGE keeps: THE LANE and THROWERS. */
    private static final class Floor {
        final Lane lane = new Lane();
        final Thrower[] throwers = new Thrower[THROWERS];
        int size;

        Floor() {
            for (int k = 0; k < THROWERS; k++) {
                throwers[k] = new Thrower();
            }
        }

        void copyFrom(Floor other) {
            lane.copyFrom(other.lane);
            for (int k = 0; k < THROWERS; k++) {
                throwers[k].copyFrom(other.throwers[k]);
            }
            size = other.size;
        }

        int playRounds(int n, Delivery delivery, Ball[] balls, int[] turns, int[] pinsOf) {
            int all = 0;
            for (int k = 0; k < THROWERS; k++) {
                pinsOf[k] = 0;
            }
            for (int round = 0; round < n; round++) {
                for (int k = 0; k < size; k++) {
                    Thrower one = throwers[turns[k]];
                    delivery.send(lane, one.board, one.aim, one.spin, balls[one.ball], ALL_PINS, true);
                    one.learnFrom(delivery);
                    pinsOf[turns[k]] += delivery.pins();
                    all += delivery.pins();
                }
            }
            return all;
        }
    }

    /** Tries SHOTS on a lane that is not changed, and keeps what came out the most. */
    private static final class Scout {
        final int[] hands = {
            0, 2, 6, 2, 0,
            0, 2, 6, 2, 0,
            0, 2, 6, 2, 0,
            0, 2, 6, 2, 0};
        private final Delivery probe = new Delivery();
        private final int[] pinsFrom = new int[BOARDS * SEARCH_AIMS];
        final int[] greatest = new int[PATTERNS * BALLS];
        int most;
        int mostBall;
        int mostBoard;
        int mostAim;

        int meanOf(Lane lane, int hand, int board, int aim, int spin, Ball ball) {
            int sum = 0;
            for (int k = 0; k < SPREAD; k++) {
                int tenths = hands[hand * SPREAD + k];
                int from = board + k - 2;
                if (tenths > 0 && from >= 0 && from < BOARDS) {
                    probe.send(lane, from, aim, spin, ball, ALL_PINS, false);
                    sum += tenths * probe.pins();
                }
            }
            return sum;
        }

        /** Balls, boards and aims come from the least on, so what is first at the most possible stays the best. */
        void seekBest(Lane lane, int hand, int spin, Ball[] balls) {
            most = -1;
            for (int ball = 0; ball < BALLS && most < MOST_MEAN; ball++) {
                notePins(lane, spin, balls[ball]);
                for (int board = 0; board < BOARDS; board++) {
                    for (int aim = -SEARCH_AIM; aim <= SEARCH_AIM; aim++) {
                        offer(notedMean(hand, board, aim), ball, board, aim);
                    }
                }
            }
        }

        private void offer(int found, int ball, int board, int aim) {
            if (found > most) {
                most = found;
                mostBall = ball;
                mostBoard = board;
                mostAim = aim;
            }
        }

        /** Each SHOT is thrown once here, though up to five MEANS ask for it. */
        private void notePins(Lane lane, int spin, Ball ball) {
            for (int board = 0; board < BOARDS; board++) {
                for (int aim = -SEARCH_AIM; aim <= SEARCH_AIM; aim++) {
                    probe.send(lane, board, aim, spin, ball, ALL_PINS, false);
                    pinsFrom[board * SEARCH_AIMS + aim + SEARCH_AIM] = probe.pins();
                }
            }
        }

        private int notedMean(int hand, int board, int aim) {
            int sum = 0;
            for (int k = 0; k < SPREAD; k++) {
                int from = board + k - 2;
                if (from >= 0 && from < BOARDS) {
                    sum += hands[hand * SPREAD + k] * pinsFrom[from * SEARCH_AIMS + aim + SEARCH_AIM];
                }
            }
            return sum;
        }

        void seekSpare(Lane lane, int set, Ball ball) {
            int possible = Integer.bitCount(set);
            most = -1;
            for (int board = 0; board < BOARDS && most < possible; board++) {
                for (int aim = -SEARCH_AIM; aim <= SEARCH_AIM; aim++) {
                    probe.send(lane, board, aim, 0, ball, set, false);
                    offer(probe.pins(), 0, board, aim);
                }
            }
        }

        int greatestMean(Lane lane, int spin, Ball ball) {
            int found = 0;
            for (int board = 0; board <= 35 && found < MOST_MEAN; board += 5) {
                for (int aim = -SEARCH_AIM; aim <= SEARCH_AIM && found < MOST_MEAN; aim += 3) {
                    found = Math.max(found, meanOf(lane, 0, board, aim, spin, ball));
                }
            }
            return found;
        }

        int trunkOf(int size) {
            int chosen = 0;
            int chosenSum = -1;
            for (int set = 1; set < 1 << BALLS; set++) {
                if (Integer.bitCount(set) == size && addedBy(set) > chosenSum) {
                    chosen = set;
                    chosenSum = addedBy(set);
                }
            }
            return chosen;
        }

        int addedBy(int set) {
            int sum = 0;
            for (int pattern = 0; pattern < PATTERNS; pattern++) {
                int found = 0;
                for (int ball = 0; ball < BALLS; ball++) {
                    if ((set >> ball & 1) != 0) {
                        found = Math.max(found, greatest[pattern * BALLS + ball]);
                    }
                }
                sum += found;
            }
            return sum;
        }
    }
}
