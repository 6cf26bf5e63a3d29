import java.util.List;
import java.util.function.Consumer;
import java.util.function.ToLongFunction;

/**
 * Terms: "Calls that are refused answer, the first of these that fits: UNKNOWN, OUTSIDE, NO, STATE,
 * FULL. They change nothing." Each call, refused for each of its reasons, one past each bound and
 * far out, for several reasons at once; and each time all that can be told is as it was.
 */
public final class RefusalsTest {
    private static final Due DUE = new Due("RefusalsTest");
    private static final int UNKNOWN = -1;
    private static final int OUTSIDE = -2;
    private static final int STATE = -3;
    private static final int FULL = -4;
    private static final int NO = -5;
    private static final long LOST = -1000000000000000000L;
    private static final int LEAST = Integer.MIN_VALUE;
    private static final int MOST = Integer.MAX_VALUE;

    private static final int[] NO_RUNNER = {-1, 8, LEAST, MOST};
    private static final int[] NO_MATCH = {0, 8, -1, LEAST, MOST};
    private static final int[] NEITHER_0_NOR_1 = {-1, 2, LEAST, MOST};
    private static final int[][] NO_TIME = {{-1, 1}, {10000, 1}, {10000, 100}, {0, 0}, {0, 101}, {9999, 0},
        {9999, 101}, {5, -1}, {-1, -1}, {LEAST, 1}, {MOST, 1}, {1, LEAST}, {1, MOST}, {MOST, MOST}};

    private static Consumer<KineticCup> ready = RefusalsTest::busy;

    public static void main(String[] args) {
        looksTellApart();
        for (Consumer<KineticCup> each : readies()) {
            ready = each;
            runners();
            days();
            times();
            lines();
            imagesAndTold();
        }
        byTheText("a%", "e+a", "e+e", ".x", "+", "e+e+i", "a+x");
        byTheText("a+", "h!h!", "e%e", "a#", "a%f", ".f!f-");
        judgeByTheText();
        byTheState();
        byWhatIsFull();
        DUE.end();
    }

    private static List<Consumer<KineticCup>> readies() {
        return List.of(x -> { }, RefusalsTest::busy, RefusalsTest::allOut, RefusalsTest::fullOfSights);
    }

    /** Of all there is something: a stale one, one out, images, sights, a text. */
    private static void busy(KineticCup x) {
        x.seen(3, 3, true);
        x.image(1);
        x.runner(5, 1, 50, 1);
        x.runner(6, 1, 60, 1);
        x.runner(1, 0, -20, 2);
        x.runner(4, 0, 35, 1);
        Due.does(x, "c!g%h" + ".".repeat(10));
        x.image(0);
        x.seen(0, 20, false);
        Due.does(x, "..");
        Due.pad(x, "f+..........");
    }

    private static void fullOfSights(KineticCup x) {
        busy(x);
        Due.pad(x, "a+");
        for (int i = 0; i < 8; i++) {
            x.seen(i, 10 + i, i % 2 == 0);
        }
    }

    private static void allOut(KineticCup x) {
        Due.does(x, "...a!b!c!d!e!f!g!h!");
    }

    /** A look that saw nothing would find that nothing is changed. */
    private static void looksTellApart() {
        ready = RefusalsTest::busy;
        DUE.isTrue("a look changes nothing by itself", Look.staysBy(ready, x -> x.fault()));
        List<ToLongFunction<KineticCup>> changes = List.of(
                x -> x.runner(0, 0, 1, 0), x -> x.runner(0, 0, 0, 0), x -> x.say('.'), x -> x.wipe(),
                x -> x.done(), x -> x.seen(9, -99, true), x -> x.forget(), x -> x.image(0),
                x -> x.image(1), x -> x.restore(0), x -> x.restore(1));
        for (int i = 0; i < changes.size(); i++) {
            DUE.isTrue("change " + i + " is seen", !Look.staysBy(ready, changes.get(i)));
        }
    }

    private static void refused(String call, ToLongFunction<KineticCup> x, long due) {
        KineticCup cup = new KineticCup();
        ready.accept(cup);
        DUE.is(call, x.applyAsLong(cup), due);
        DUE.isTrue(call + " changes nothing", Look.staysBy(ready, x));
    }

    private static void runners() {
        for (int r : NO_RUNNER) {
            refused("2: runner " + r, x -> x.runner(r, 0, 0, 0), UNKNOWN);
            refused("2: UNKNOWN is first " + r, x -> x.runner(r, 2, 1001, 51), UNKNOWN);
        }
        for (int k : NEITHER_0_NOR_1) {
            refused("2: kind " + k, x -> x.runner(7, k, 0, 0), OUTSIDE);
            refused("2: kind " + k + " in lane 0", x -> x.runner(0, k, 0, 0), OUTSIDE);
        }
        for (int a : new int[] {-1001, 1001, LEAST, MOST}) {
            refused("2: a " + a, x -> x.runner(7, 1, a, 0), OUTSIDE);
            refused("2: OUTSIDE is ahead of STATE, a " + a, x -> x.runner(0, 1, a, 0), OUTSIDE);
        }
        for (int b : new int[] {-51, 51, LEAST, MOST}) {
            refused("2: b " + b, x -> x.runner(7, 1, 0, b), OUTSIDE);
            refused("2: OUTSIDE is ahead of STATE, b " + b, x -> x.runner(0, 1, 0, b), OUTSIDE);
        }
        for (int r = 0; r < 4; r++) {
            int runner = r;
            refused("2: lane 0 takes no free one", x -> x.runner(runner, 1, 0, 0), STATE);
            refused("2: STATE, at the bounds", x -> x.runner(runner, 1, 1000, -50), STATE);
        }
        for (int sign : new int[] {32, 127, 0, -1, 10, 128, 33 + 256, LEAST, MOST}) {
            refused("3: sign " + sign, x -> x.say(sign), OUTSIDE);
        }
    }

    private static void days() {
        for (int what : NEITHER_0_NOR_1) {
            refused("6: judge " + what, x -> x.judge(what), OUTSIDE);
        }
        for (int r : NO_RUNNER) {
            refused("8: behind " + r, x -> x.behind(r, 0), UNKNOWN);
            refused("8: UNKNOWN is first " + r, x -> x.behind(r, 4), UNKNOWN);
        }
        for (int what : new int[] {-1, 4, LEAST, MOST}) {
            refused("8: behind, what " + what, x -> x.behind(7, what), OUTSIDE);
        }
        for (int m : NO_MATCH) {
            refused("9: winner " + m, x -> x.winner(m), UNKNOWN);
        }
        for (int what : new int[] {-1, 7, LEAST, MOST}) {
            refused("10: then " + what, x -> x.then(what), OUTSIDE);
        }
    }

    private static void times() {
        for (int[] t : NO_TIME) {
            String time = t[0] + " by " + t[1];
            refused("11: leads " + time, x -> x.leads(t[0], t[1]), OUTSIDE);
            refused("14: ever " + time, x -> x.ever(t[0], t[1]), OUTSIDE);
            refused("15: value " + time, x -> x.value(7, t[0], t[1], 0), LOST + OUTSIDE);
            refused("16: number " + time, x -> x.number(7, t[0], t[1], 0), LOST + OUTSIDE);
            refused("17: heap " + time, x -> x.heap(t[0], t[1], 0), LOST + OUTSIDE);
        }
        for (int part : NEITHER_0_NOR_1) {
            refused("12: next " + part, x -> x.next(part), LOST + OUTSIDE);
            refused("15: value, part " + part, x -> x.value(7, 1, 1, part), LOST + OUTSIDE);
            refused("17: heap, what " + part, x -> x.heap(1, 1, part), LOST + OUTSIDE);
        }
        for (int what : new int[] {-1, 3, LEAST, MOST}) {
            refused("16: number, what " + what, x -> x.number(7, 1, 1, what), LOST + OUTSIDE);
        }
        for (int r : NO_RUNNER) {
            refused("15: value of " + r, x -> x.value(r, 1, 1, 0), LOST + UNKNOWN);
            refused("15: UNKNOWN is first " + r, x -> x.value(r, -1, 0, 2), LOST + UNKNOWN);
            refused("16: number of " + r, x -> x.number(r, 1, 1, 0), LOST + UNKNOWN);
            refused("16: UNKNOWN is first " + r, x -> x.number(r, -1, 0, 3), LOST + UNKNOWN);
        }
    }

    private static void lines() {
        for (int t : new int[] {-1, 10, LEAST, MOST}) {
            refused("18: seen at " + t, x -> x.seen(t, 0, true), OUTSIDE);
            refused("18: seen at " + t, x -> x.seen(t, 100, false), OUTSIDE);
        }
        for (int v : new int[] {-100, 100, LEAST, MOST}) {
            refused("18: seen " + v, x -> x.seen(0, v, true), OUTSIDE);
            refused("18: seen " + v, x -> x.seen(9, v, false), OUTSIDE);
        }
        for (int what : NEITHER_0_NOR_1) {
            refused("21: ask " + what, x -> x.ask(what), OUTSIDE);
            refused("22: cross, part " + what, x -> x.cross(6, 7, what), LOST + OUTSIDE);
            refused("22: both are one, part " + what, x -> x.cross(7, 7, what), LOST + OUTSIDE);
        }
        for (int r : NO_RUNNER) {
            refused("22: cross " + r, x -> x.cross(r, 0, 0), LOST + UNKNOWN);
            refused("22: cross with " + r, x -> x.cross(0, r, 0), LOST + UNKNOWN);
            refused("22: both are one that is not " + r, x -> x.cross(r, r, 0), LOST + UNKNOWN);
            refused("22: UNKNOWN is first " + r, x -> x.cross(0, r, 2), LOST + UNKNOWN);
        }
        for (int r = 0; r < 8; r++) {
            int runner = r;
            refused("22: both are one " + r, x -> x.cross(runner, runner, 0), LOST + OUTSIDE);
        }
        for (int seed : new int[] {-1, 10000, LEAST, MOST}) {
            refused("23: run, seed " + seed, x -> x.run(seed, 1, 0), OUTSIDE);
        }
        for (int m : new int[] {0, 100, -1, LEAST, MOST}) {
            refused("23: run, m " + m, x -> x.run(0, m, 0), OUTSIDE);
        }
        for (int what : new int[] {-1, 3, LEAST, MOST}) {
            refused("23: run, what " + what, x -> x.run(0, 1, what), OUTSIDE);
        }
    }

    private static void imagesAndTold() {
        for (int n : NEITHER_0_NOR_1) {
            refused("24: image " + n, x -> x.image(n), OUTSIDE);
            refused("25: restore " + n, x -> x.restore(n), OUTSIDE);
        }
        int[] wrong = {-1, 5, 6, 9, 18, 19, 28, 29, 38, 39, 48, 49, 50, 58, 59, 60, 67, 70, 100, 101, 110,
            -10, -11, -51, LEAST, LEAST + 1, MOST};
        for (int what : wrong) {
            refused("26: told " + what, x -> x.told(what), OUTSIDE);
        }
    }

    /** NO: of done(), behind(), winner(), then(); by a fault, or by an act that can not be. */
    private static void byTheText(String... texts) {
        for (String text : texts) {
            ready = x -> {
                busy(x);
                Due.pad(x, text);
            };
            refused("7: done " + text, x -> x.done(), NO);
            refused("8: behind " + text, x -> x.behind(0, 0), NO);
            refused("8: UNKNOWN is ahead of NO " + text, x -> x.behind(8, 0), UNKNOWN);
            refused("8: OUTSIDE is ahead of NO " + text, x -> x.behind(0, 4), OUTSIDE);
            refused("9: winner " + text, x -> x.winner(7), NO);
            refused("9: UNKNOWN is ahead of NO " + text, x -> x.winner(0), UNKNOWN);
            refused("10: then " + text, x -> x.then(0), NO);
            refused("10: then " + text, x -> x.then(6), NO);
            refused("10: OUTSIDE is ahead of NO " + text, x -> x.then(7), OUTSIDE);
        }
    }

    /** NO: of judge() by a fault alone. */
    private static void judgeByTheText() {
        for (String text : new String[] {"a%", "e", ".x", "+", "a+x", "a+e"}) {
            ready = x -> Due.pad(x, text);
            refused("6: judge " + text, x -> x.judge(0), NO);
            refused("6: judge " + text, x -> x.judge(1), NO);
            refused("6: OUTSIDE is ahead of NO " + text, x -> x.judge(2), OUTSIDE);
            refused("6: OUTSIDE is ahead of NO " + text, x -> x.judge(-1), OUTSIDE);
        }
    }

    private static void byTheState() {
        ready = x -> { };
        refused("12: none is next", x -> x.next(0), LOST + STATE);
        refused("12: none is next", x -> x.next(1), LOST + STATE);
        refused("12: OUTSIDE is ahead of STATE", x -> x.next(2), LOST + OUTSIDE);
        refused("22: slopes are as great", x -> x.cross(0, 7, 0), LOST + STATE);
        refused("22: slopes are as great", x -> x.cross(7, 0, 1), LOST + STATE);
        refused("22: OUTSIDE is ahead of STATE", x -> x.cross(0, 7, 2), LOST + OUTSIDE);
        refused("25: it was not kept", x -> x.restore(0), STATE);
        refused("25: it was not kept", x -> x.restore(1), STATE);
        ready = x -> x.image(0);
        refused("25: the other one was not kept", x -> x.restore(1), STATE);
        ready = x -> x.image(1);
        refused("25: the other one was not kept", x -> x.restore(0), STATE);
        ready = RefusalsTest::allOut;
        refused("12: none is in", x -> x.next(0), LOST + STATE);
        refused("14: sooner than now", x -> x.ever(2, 1), OUTSIDE);
        refused("14: sooner than now", x -> x.ever(299, 100), OUTSIDE);
    }

    private static void byWhatIsFull() {
        ready = x -> Due.pad(x, ".".repeat(60));
        refused("3: full", x -> x.say('.'), FULL);
        refused("3: full", x -> x.say(33), FULL);
        refused("3: full", x -> x.say(126), FULL);
        refused("3: OUTSIDE is ahead of FULL", x -> x.say(32), OUTSIDE);
        refused("3: OUTSIDE is ahead of FULL", x -> x.say(127), OUTSIDE);
        ready = x -> {
            for (int i = 0; i < 8; i++) {
                x.seen(i, i, i % 2 == 0);
            }
        };
        refused("18: full", x -> x.seen(0, 0, true), FULL);
        refused("18: full", x -> x.seen(9, -99, false), FULL);
        refused("18: OUTSIDE is ahead of FULL", x -> x.seen(10, 0, true), OUTSIDE);
        refused("18: OUTSIDE is ahead of FULL", x -> x.seen(0, 100, true), OUTSIDE);
    }
}
