import java.lang.reflect.Method;
import java.util.ArrayList;
import java.util.LinkedHashMap;
import java.util.List;
import java.util.Map;
import java.util.function.Supplier;

/**
 * "Refused, and nothing changes": every number of every call just beyond its bounds and far beyond these, on a new object,
 * on one in the midst of its use and on one that is full; each time all that can be seen of the object stays as it was.
 * The same of calls that only ask.
 */
public final class RefusalTest {
    private static final int[] SHOT_LEAST = {0, -20, -30, 0};
    private static final int[] SHOT_MOST = {38, 20, 30, 5};
    private static final String SLICK = "lay 0 38 0 19 30;lay 0 38 0 19 30;";

    /** One call by its name and numbers. */
    private static final class Call {
        final String name;
        final long[] numbers;

        Call(String name, long... numbers) {
            this.name = name;
            this.numbers = numbers;
        }

        long on(OilLane x) {
            try {
                for (Method m : OilLane.class.getDeclaredMethods()) {
                    if (m.getName().equals(name)) {
                        return ((Number) m.invoke(x, boxed(m))).longValue();
                    }
                }
            } catch (ReflectiveOperationException e) {
                throw new IllegalStateException(this + " failed: " + e.getCause(), e);
            }
            throw new IllegalStateException("there is no " + name);
        }

        private Object[] boxed(Method m) {
            Object[] all = new Object[numbers.length];
            for (int k = 0; k < all.length; k++) {
                boolean wide = m.getParameterTypes()[k] == long.class;
                all[k] = wide ? (Object) numbers[k] : (Object) (int) numbers[k];
            }
            return all;
        }

        @Override
        public String toString() {
            StringBuilder b = new StringBuilder(name).append('(');
            for (int k = 0; k < numbers.length; k++) {
                b.append(k > 0 ? ", " : "").append(numbers[k]);
            }
            return b.append(')').toString();
        }
    }

    // ---- objects

    private static OilLane fresh() {
        return new OilLane();
    }

    private static OilLane midst() {
        OilLane x = Due.tell(new OilLane(), 0, "lay 3 30 0 14 8;lay 10 20 2 9 6;strip 5 5;");
        Due.tell(x, 2, SLICK);
        x.lay(0);
        x.ball(1, 0, 9);
        x.ball(4, 1, 7);
        x.scatter(1, 2, 0, 3);
        x.scatter(3, 1, 4, 2);
        x.thrower(24, 3, -8, 2, 1);
        x.thrower(20, 2, -6, 4, 2);
        x.evening(2);
        x.keep(1);
        x.thrower(14, -3, 8, 2, 0);
        x.evening(1);
        x.clue(19, 0, 0, 0, 195);
        x.clue(22, 4, -9, 3, 100);
        for (int pins : new int[] {10, 3, 7, 4}) {
            x.roll(pins);
        }
        x.shot(22, 4, -9, 3);
        x.worth(4);
        return Due.type(x, "lay 1 2 3 4");
    }

    private static OilLane full() {
        OilLane x = midst();
        x.clear();
        Due.tell(x, 1, "strip 0 19;lay 9 9 9 9 9;");
        Due.tell(x, 3, "");
        x.keep(0);
        x.thrower(18, -1, 5, 1, 0);
        for (int k = 0; k < 4; k++) {
            x.clue(19, 0, 0, 0, 195);
        }
        x.anew();
        for (int k = 0; k < 12; k++) {
            x.roll(10);
        }
        return Due.type(x, " ".repeat(290) + "strip 0 0;");
    }

    // ---- all that can be seen of an object

    /** No object of these gets more than 512 calls, so the cells are looked at on objects of their own. */
    private static Map<String, Long> seen(Supplier<OilLane> made) {
        Map<String, Long> all = new LinkedHashMap<>();
        for (int from = 0; from < 20; from += 10) {
            OilLane x = made.get();
            for (int stretch = from; stretch < from + 10; stretch++) {
                for (int board = 0; board < 39; board++) {
                    all.put("drops(" + board + ", " + stretch + ")", (long) x.drops(board, stretch));
                }
            }
        }
        OilLane x = made.get();
        seeNumbers(x, all);
        for (int k = 0; k < 4; k++) {
            all.put("lay(" + k + ")", (long) x.lay(k));
            seeLane(x, "behind lay(" + k + ")", all);
        }
        for (int image = 0; image < 2; image++) {
            all.put("back(" + image + ")", (long) x.back(image));
            seeLane(x, "behind back(" + image + ")", all);
            seeThrowers(x, "behind back(" + image + ")", all);
        }
        seeText(x, all);
        return all;
    }

    private static void seeNumbers(OilLane x, Map<String, Long> all) {
        all.put("trace()", x.trace());
        all.put("fits()", (long) x.fits());
        for (int what = 0; what < 7; what++) {
            all.put("came(" + what + ")", (long) x.came(what));
            all.put("game(" + what + ")", (long) x.game(what));
            all.put("count(" + what + ")", (long) x.count(what));
        }
        for (int hand = 0; hand < 4; hand++) {
            for (int place = 0; place < 5; place++) {
                all.put("SCATTER of " + hand + " at " + place, (long) x.scatter(hand, place, place, 0));
            }
        }
        seeThrowers(x, "now", all);
        for (int pins = 10; pins >= 0; pins--) {
            all.put("roll(" + pins + ")", (long) x.roll(pins));
        }
        for (int k = 0; k < 6; k++) {
            all.put("SKIN of " + k, (long) x.ball(k, 0, 1));
            all.put("WEIGHT of " + k, (long) x.ball(k, 1, 5));
        }
    }

    private static void seeThrowers(OilLane x, String when, Map<String, Long> all) {
        for (int t = 0; t < 4; t++) {
            for (int what = 0; what < 6; what++) {
                all.put("stands(" + t + ", " + what + ") " + when, (long) x.stands(t, what));
            }
        }
    }

    private static void seeLane(OilLane x, String when, Map<String, Long> all) {
        for (int stretch = 0; stretch < 20; stretch++) {
            all.put("oil(" + stretch + ") " + when, (long) x.oil(stretch));
        }
    }

    /** What may follow tells what is there: one text is read as it is, another when it has been ended. */
    private static void seeText(OilLane x, Map<String, Long> all) {
        all.put("pattern(0)", (long) x.pattern(0));
        Due.type(x, " 7;");
        all.put("pattern(0) of more", (long) x.pattern(0));
        all.put("bytes behind it", (long) x.count(2));
        all.put("lay(0) of it", (long) x.lay(0));
        seeLane(x, "of it", all);
    }

    private static void answers(Supplier<OilLane> made, Map<String, Long> before, Call call, Long want) {
        if (want != null) {
            Due.is(call.toString(), call.on(made.get()), want);
        }
        Map<String, Long> behind = seen(() -> {
            OilLane x = made.get();
            call.on(x);
            return x;
        });
        for (Map.Entry<String, Long> e : before.entrySet()) {
            Due.is(e.getKey() + " behind " + call, behind.get(e.getKey()), e.getValue());
        }
    }

    // ---- numbers beyond their bounds

    /** A call with numbers that are fine, and their bounds. */
    private static void beyond(List<Call> calls, String name, int[] fine, int[] least, int[] most) {
        for (int k = 0; k < fine.length; k++) {
            for (long v : new long[] {least[k] - 1, most[k] + 1, Due.LOWEST, Due.HIGHEST}) {
                long[] numbers = new long[fine.length];
                for (int n = 0; n < fine.length; n++) {
                    numbers[n] = n == k ? v : fine[n];
                }
                calls.add(new Call(name, numbers));
            }
        }
    }

    private static int[] and(int[] some, int more) {
        int[] all = java.util.Arrays.copyOf(some, some.length + 1);
        all[some.length] = more;
        return all;
    }

    private static List<Call> badCalls() {
        List<Call> calls = new ArrayList<>();
        for (long v : new long[] {0, 9, -1, Due.LOWEST, Due.HIGHEST}) {
            calls.add(new Call("type", 97, v));
        }
        beyond(calls, "pattern", new int[] {0}, new int[] {0}, new int[] {3});
        beyond(calls, "lay", new int[] {0}, new int[] {0}, new int[] {3});
        beyond(calls, "drops", new int[] {0, 0}, new int[] {0, 0}, new int[] {38, 19});
        beyond(calls, "oil", new int[] {0}, new int[] {-1}, new int[] {19});
        beyond(calls, "ball", new int[] {0, 0, 5}, new int[] {0, 0, 1}, new int[] {5, 1, 9});
        beyond(calls, "ball", new int[] {0, 1, 5}, new int[] {0, 0, 5}, new int[] {5, 1, 16});
        beyond(calls, "shot", new int[] {19, 0, 0, 0}, SHOT_LEAST, SHOT_MOST);
        beyond(calls, "fall", new int[] {195, 0, 12, 1023}, new int[] {0, -40, 5, 0}, new int[] {389, 40, 16, 1023});
        beyond(calls, "roll", new int[] {0}, new int[] {0}, new int[] {10});
        beyond(calls, "game", new int[] {0}, new int[] {0}, new int[] {4});
        beyond(calls, "scatter", new int[] {0, 2, 1, 1}, new int[] {0, 0, 0, 0}, new int[] {3, 4, 4, 10});
        beyond(calls, "mean", new int[] {0, 19, 0, 0, 0}, new int[] {0, 0, -20, -30, 0}, new int[] {3, 38, 20, 30, 5});
        beyond(calls, "thrower", new int[] {19, 0, 0, 0, 0}, and(SHOT_LEAST, 0), and(SHOT_MOST, 2));
        beyond(calls, "evening", new int[] {1}, new int[] {1}, new int[] {20});
        beyond(calls, "would", new int[] {1, -1}, new int[] {1, -1}, new int[] {20, 3});
        beyond(calls, "order", new int[] {1, 0}, new int[] {1, 0}, new int[] {20, 1});
        beyond(calls, "clue", new int[] {19, 0, 0, 0, 195}, and(SHOT_LEAST, -1), and(SHOT_MOST, 389));
        beyond(calls, "trunk", new int[] {1, 0, 0}, new int[] {1, -30, 0}, new int[] {3, 30, 1});
        beyond(calls, "keep", new int[] {0}, new int[] {0}, new int[] {1});
        beyond(calls, "back", new int[] {0}, new int[] {0}, new int[] {1});
        beyond(calls, "count", new int[] {0}, new int[] {0}, new int[] {3});
        return calls;
    }

    private static List<Call> noCalls() {
        List<Call> calls = new ArrayList<>();
        beyond(calls, "came", new int[] {0}, new int[] {0}, new int[] {6});
        beyond(calls, "tried", new int[] {19, 0, 0, 0}, SHOT_LEAST, SHOT_MOST);
        beyond(calls, "best", new int[] {0, 0, 0}, new int[] {0, -30, 0}, new int[] {3, 30, 3});
        beyond(calls, "stands", new int[] {0, 0}, new int[] {0, 0}, new int[] {3, 5});
        beyond(calls, "spare", new int[] {1, 0, 0}, new int[] {0, 0, 0}, new int[] {1023, 5, 2});
        beyond(calls, "worth", new int[] {0}, new int[] {0}, new int[] {5});
        return calls;
    }

    private static void numbers(String which, Supplier<OilLane> made) {
        Map<String, Long> before = seen(made);
        Due.sentence("Refused, and nothing changes: BAD (" + which + ")");
        for (Call call : badCalls()) {
            answers(made, before, call, (long) Due.BAD);
        }
        Due.sentence("Refused, and nothing changes: NO: BAD (" + which + ")");
        for (Call call : noCalls()) {
            answers(made, before, call, (long) Due.NO);
        }
    }

    // ---- what the object's state refuses

    private static void ofANewObject() {
        Due.sentence("Refused, and nothing changes: STATE, NO (a new object)");
        Map<String, Long> before = seen(RefusalTest::fresh);
        for (int k = 0; k < 4; k++) {
            answers(RefusalTest::fresh, before, new Call("lay", k), (long) Due.STATE);
            answers(RefusalTest::fresh, before, new Call("stands", k, 0), (long) Due.NO);
            answers(RefusalTest::fresh, before, new Call("would", 1, k), (long) Due.BAD);
        }
        for (int k = 0; k < 7; k++) {
            answers(RefusalTest::fresh, before, new Call("came", k), (long) Due.NO);
            answers(RefusalTest::fresh, before, new Call("worth", k), (long) Due.NO);
        }
        answers(RefusalTest::fresh, before, new Call("back", 0), (long) Due.STATE);
        answers(RefusalTest::fresh, before, new Call("back", 1), (long) Due.STATE);
    }

    private static void inTheMidst() {
        Due.sentence("Refused, and nothing changes: FAULT, STATE, more than there are (in the midst)");
        Map<String, Long> before = seen(RefusalTest::midst);
        for (int k = 0; k < 4; k++) {
            answers(RefusalTest::midst, before, new Call("pattern", k), -21L);
        }
        answers(RefusalTest::midst, before, new Call("lay", 1), (long) Due.STATE);
        answers(RefusalTest::midst, before, new Call("lay", 3), (long) Due.STATE);
        answers(RefusalTest::midst, before, new Call("back", 0), (long) Due.STATE);
        answers(RefusalTest::midst, before, new Call("roll", 7), (long) Due.BAD);
        answers(RefusalTest::midst, before, new Call("roll", 10), (long) Due.BAD);
        answers(RefusalTest::midst, before, new Call("scatter", 1, 2, 4, 4), (long) Due.BAD);
        answers(RefusalTest::midst, before, new Call("scatter", 3, 1, 4, 1), (long) Due.BAD);
        answers(RefusalTest::midst, before, new Call("stands", 3, 0), (long) Due.NO);
        answers(RefusalTest::midst, before, new Call("would", 1, 3), (long) Due.BAD);
    }

    private static void whenFull() {
        Due.sentence("Refused, and nothing changes: FULL, STATE: the GAME is over (a full object)");
        Map<String, Long> before = seen(RefusalTest::full);
        for (int n = 1; n <= 8; n++) {
            answers(RefusalTest::full, before, new Call("type", 97, n), (long) Due.FULL);
        }
        answers(RefusalTest::full, before, new Call("thrower", 19, 0, 0, 0, 0), (long) Due.FULL);
        answers(RefusalTest::full, before, new Call("clue", 19, 0, 0, 0, 195), (long) Due.FULL);
        for (int pins = 0; pins <= 10; pins++) {
            answers(RefusalTest::full, before, new Call("roll", pins), (long) Due.STATE);
        }
    }

    // ---- calls that only ask

    private static void asking(String which, Supplier<OilLane> made) {
        Due.sentence("what is asked or tried changes nothing (" + which + ")");
        Map<String, Long> before = seen(made);
        Call[] calls = {
            new Call("drops", 19, 3), new Call("oil", -1), new Call("oil", 7), new Call("came", 0), new Call("came", 6),
            new Call("tried", 22, 4, -9, 3), new Call("tried", 0, -20, 0, 0), new Call("fall", 195, 3, 12, 1023),
            new Call("game", 1), new Call("game", 3), new Call("mean", 1, 20, 2, -5, 2), new Call("best", 0, -5, 0),
            new Call("best", 3, 8, 2), new Call("stands", 0, 0), new Call("would", 20, -1), new Call("would", 3, 0),
            new Call("order", 3, 1), new Call("fits"), new Call("trunk", 2, -5, 0), new Call("spare", 576, 3, 1),
            new Call("count", 3), new Call("trace"), new Call("scatter", 1, 2, 4, 0), new Call("scatter", 1, 2, 2, 2)};
        for (Call call : calls) {
            answers(made, before, call, null);
        }
    }

    private static void worthLeavesATrace() {
        Due.sentence("4: numbers in brackets come to THE TRACE as worth() asks (nothing else changes)");
        Map<String, Long> before = seen(RefusalTest::midst);
        int[] marks = {1, 11, 101, 1101, 10011, 100001};
        for (int kind = 0; kind < 6; kind++) {
            Map<String, Long> due = new LinkedHashMap<>(before);
            due.put("trace()", before.get("trace()") + marks[kind]);
            answers(RefusalTest::midst, due, new Call("worth", kind), null);
        }
    }

    public static void main(String[] args) {
        numbers("a new object", RefusalTest::fresh);
        numbers("in the midst", RefusalTest::midst);
        numbers("a full object", RefusalTest::full);
        ofANewObject();
        inTheMidst();
        whenFull();
        asking("a new object", RefusalTest::fresh);
        asking("in the midst", RefusalTest::midst);
        asking("a full object", RefusalTest::full);
        worthLeavesATrace();
        Due.end();
    }
}
