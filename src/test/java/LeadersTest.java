/** Promises 11 to 17: leads, next, where, ever, value, number, heap. */
public final class LeadersTest {
    private static final Due DUE = new Due("LeadersTest");
    private static final long UNKNOWN = KineticCup.LOST - 1;
    private static final long OUTSIDE = KineticCup.LOST - 2;
    private static final long STATE = KineticCup.LOST - 3;

    public static void main(String[] args) {
        leadsAtTimes();
        leadsRefusals();
        nextAndWhere();
        nextPassesStaleOnes();
        everUpToATime();
        everRefusals();
        values();
        numbers();
        numberIsCutFromTheSingleOne();
        heaps();
        heapTakesThoseIn();
        heapIsNotAsExact();
        DUE.end();
    }

    private static void leadsAtTimes() {
        KineticCup x = new KineticCup();
        x.runner(0, 0, 0, 50);
        DUE.is("11: at 0", x.leads(0, 1), 7);
        DUE.is("11: just ahead of 7/5", x.leads(139, 100), 7);
        DUE.is("11: at 7/5", x.leads(7, 5), 0);
        DUE.is("11: far", x.leads(9999, 1), 0);
        Due.does(x, "..");
        DUE.is("11: a time that is gone", x.leads(0, 1), 7);
        Due.does(x, "a!");
        DUE.is("11: one who is out", x.leads(9999, 1), 7);
        x.runner(6, 1, 70, 0);
        DUE.is("11: as great, the less number", x.leads(5, 1), 6);
        Due.does(x, "b!c!d!e!f!g!h!");
        DUE.is("11: none", x.leads(5, 1), -6);
    }

    private static void leadsRefusals() {
        KineticCup x = new KineticCup();
        int[][] wrong = {{-1, 1}, {10000, 1}, {0, 0}, {0, 101}, {0, -1}, {Integer.MIN_VALUE, 1},
            {0, Integer.MIN_VALUE}, {Integer.MAX_VALUE, Integer.MAX_VALUE}};
        for (int[] t : wrong) {
            String time = t[0] + " by " + t[1];
            DUE.is("11: " + time, x.leads(t[0], t[1]), -2);
            DUE.is("14: " + time, x.ever(t[0], t[1]), -2);
            DUE.is("15: " + time, x.value(0, t[0], t[1], 0), OUTSIDE);
            DUE.is("15: UNKNOWN is ahead " + time, x.value(8, t[0], t[1], 0), UNKNOWN);
            DUE.is("16: " + time, x.number(0, t[0], t[1], 0), OUTSIDE);
            DUE.is("16: UNKNOWN is ahead " + time, x.number(-1, t[0], t[1], 0), UNKNOWN);
            DUE.is("17: " + time, x.heap(t[0], t[1], 0), OUTSIDE);
        }
        DUE.is("11: edges", x.leads(9999, 100), 7);
        DUE.is("11: edges", x.leads(0, 1), 7);
    }

    private static void nextIs(KineticCup x, long upper, long lower, int where) {
        DUE.is("12: next(0)", x.next(0), upper);
        DUE.is("12: next(1)", x.next(1), lower);
        DUE.is("13: where()", x.where(), where);
    }

    private static void nextAndWhere() {
        KineticCup x = new KineticCup();
        nextIs(x, STATE, STATE, -6);
        DUE.is("12: part 2", x.next(2), OUTSIDE);
        DUE.is("12: part -1", x.next(-1), OUTSIDE);
        x.runner(6, 1, 60, 4);
        nextIs(x, 5, 2, 7);
        x.runner(6, 1, -1000, 1);
        nextIs(x, 1070, 1, 7);
        x.runner(4, 1, -20, 3);
        nextIs(x, 70, 3, 6);
        x.runner(0, 0, 0, 3);
        nextIs(x, 10, 3, 4);
        x.runner(2, 0, 20, 3);
        nextIs(x, 10, 3, 5);
        Due.does(x, "...");
        nextIs(x, 10, 3, 5);
        Due.does(x, ".");
        nextIs(x, 50, 3, 1);
        DUE.is("12: part 2", x.next(2), OUTSIDE);
    }

    /** At 10 that of match 3 is stale; the next that holds is later, at match 4. */
    private static void nextPassesStaleOnes() {
        KineticCup x = new KineticCup();
        x.runner(5, 1, 50, 1);
        x.runner(6, 1, 60, 1);
        x.runner(0, 0, -20, 1);
        DUE.is("26: three", x.told(3), 3);
        nextIs(x, 10, 1, 7);
        Due.does(x, ".".repeat(10));
        DUE.is("26: two", x.told(3), 2);
        nextIs(x, 30, 1, 4);
    }

    /** h leads, b passes it at 1, e passes b at 99/14; a never leads while b is in. */
    private static void everUpToATime() {
        KineticCup x = new KineticCup();
        x.runner(0, 0, 0, 10);
        x.runner(4, 1, -30, 15);
        x.runner(1, 0, 69, 1);
        DUE.is("14: now alone", x.ever(0, 1), 128);
        DUE.is("14: just ahead of 1", x.ever(99, 100), 128);
        DUE.is("14: b at 1", x.ever(1, 1), 128 | 2);
        DUE.is("14: e passes h at 20/3, which b leads by then", x.ever(20, 3), 128 | 2);
        DUE.is("14: e at 99/14", x.ever(99, 14), 128 | 2 | 16);
        DUE.is("14: just ahead of 99/14", x.ever(707, 100), 128 | 2);
        DUE.is("14: far", x.ever(9999, 1), 128 | 2 | 16);
        Due.does(x, ".");
        DUE.is("14: b leads from now on", x.ever(1, 1), 2);
        Due.does(x, ".");
        DUE.is("14: what is gone does not count", x.ever(2, 1), 2);
        DUE.is("14: what is gone does not count", x.ever(9999, 1), 2 | 16);
        Due.does(x, "b!");
        DUE.is("14: e passes h at 20/3, ahead of a", x.ever(9999, 1), 128 | 16);
        x.runner(4, 1, -30, 14);
        DUE.is("14: h, a at 7, e at 15/2", x.ever(15, 2), 128 | 1 | 16);
        DUE.is("14: h, a at 7", x.ever(7, 1), 128 | 1);
        x.runner(5, 1, -30, 14);
        DUE.is("14: the same line, the less number", x.ever(100, 1), 128 | 1 | 16);
        Due.does(x, "a!c!d!e!f!g!h!");
        DUE.is("14: none", x.ever(100, 1), 0);
    }

    private static void everRefusals() {
        KineticCup x = new KineticCup();
        Due.does(x, "...");
        DUE.is("14: now", x.ever(3, 1), 128);
        DUE.is("14: now", x.ever(300, 100), 128);
        DUE.is("14: sooner", x.ever(299, 100), -2);
        DUE.is("14: sooner", x.ever(0, 1), -2);
        DUE.is("14: later", x.ever(301, 100), 128);
    }

    private static void values() {
        KineticCup x = new KineticCup();
        DUE.is("15: part 2", x.value(0, 0, 1, 2), OUTSIDE);
        DUE.is("15: part -1", x.value(0, 0, 1, -1), OUTSIDE);
        DUE.is("15: runner 8", x.value(8, 0, 1, 2), UNKNOWN);
        DUE.is("15: runner -1", x.value(-1, 0, 1, 0), UNKNOWN);
        x.runner(4, 1, 3, -2);
        DUE.is("15: 3 less 2 by 5/6", x.value(4, 5, 6, 0), 4);
        DUE.is("15: 3 less 2 by 5/6", x.value(4, 5, 6, 1), 3);
        DUE.is("15: 3 less 2 by 10/6", x.value(4, 10, 6, 0), -1);
        DUE.is("15: 3 less 2 by 10/6", x.value(4, 10, 6, 1), 3);
        DUE.is("15: 0", x.value(4, 150, 100, 0), 0);
        DUE.is("15: 0", x.value(4, 150, 100, 1), 1);
        Due.does(x, "e!");
        DUE.is("15: out", x.value(4, 0, 7, 0), 3);
        DUE.is("15: out", x.value(4, 0, 7, 1), 1);
    }

    private static void numberIs(KineticCup x, int runner, int p, int q, int upper) {
        float single = (float) upper / (float) q;
        String call = "16: number(" + runner + ", " + p + ", " + q + ", ";
        DUE.is(call + "0)", x.number(runner, p, q, 0), Float.floatToIntBits(single));
        DUE.is(call + "1)", x.number(runner, p, q, 1),
                Double.doubleToLongBits((double) upper / (double) q));
        DUE.is(call + "2)", x.number(runner, p, q, 2), (long) single);
    }

    private static void numbers() {
        KineticCup x = new KineticCup();
        DUE.is("16: what 3", x.number(0, 0, 1, 3), OUTSIDE);
        DUE.is("16: what -1", x.number(0, 0, 1, -1), OUTSIDE);
        DUE.is("16: runner 8", x.number(8, 0, 1, 3), UNKNOWN);
        DUE.is("16: 70", x.number(7, 0, 1, 0), 0x428C0000);
        DUE.is("16: 70", x.number(7, 0, 1, 1), 0x4051800000000000L);
        DUE.is("16: 0", x.number(0, 0, 1, 0), 0);
        DUE.is("16: 0", x.number(0, 0, 1, 1), 0);
        int[][] lines = {{0, 1}, {0, -1}, {1000, 50}, {-1000, -50}, {1000, -50}, {-7, 3}, {1, 0}};
        for (int[] line : lines) {
            for (int q = 1; q <= 100; q++) {
                KineticCup y = new KineticCup();
                y.runner(5, 1, line[0], line[1]);
                for (int p = q % 7; p <= 9999; p += 1013) {
                    numberIs(y, 5, p, q, line[0] * q + line[1] * p);
                }
                numberIs(y, 5, 1, q, line[0] * q + line[1]);
            }
        }
    }

    /** A bit less than a whole number may be that number as a single one. */
    private static void numberIsCutFromTheSingleOne() {
        KineticCup x = new KineticCup();
        x.runner(7, 1, 1000, 50);
        x.runner(4, 1, 1000, -50);
        numberIs(x, 4, 1999, 100, 50);
        numberIs(x, 7, 9999, 2, 501950);
        Due.does(x, ".".repeat(60));
        Due.does(x, ".".repeat(39));
        Due.does(x, "h-".repeat(30));
        Due.does(x, "h-".repeat(30));
        Due.does(x, "h-".repeat(30));
        Due.does(x, "h-".repeat(10));
        DUE.is("8: A by many pushes", x.behind(7, 2), 10900);
        DUE.is("8: B by many pushes", x.behind(7, 3), -50);
        numberIs(x, 7, 1, 99, 10900 * 99 - 50);
        numberIs(x, 7, 9999, 1, 10900 - 50 * 9999);
        numberIs(x, 7, 9998, 97, 10900 * 97 - 50 * 9998);
    }

    private static void heapIs(KineticCup x, int p, int q, float sum) {
        DUE.is("17: heap(" + p + ", " + q + ", 0)", x.heap(p, q, 0), Float.floatToIntBits(sum));
        DUE.is("17: heap(" + p + ", " + q + ", 1)", x.heap(p, q, 1), (long) sum);
    }

    private static void heaps() {
        KineticCup x = new KineticCup();
        DUE.is("17: what 2", x.heap(0, 1, 2), OUTSIDE);
        DUE.is("17: what -1", x.heap(0, 1, -1), OUTSIDE);
        heapIs(x, 0, 1, 280f);
        int[][] lines = {{1000, 50}, {0, 1}, {-1000, -50}, {3, 7}, {0, -1}, {500, -3}, {-20, 11}, {1, 1}};
        for (int q = 1; q <= 100; q++) {
            KineticCup y = new KineticCup();
            for (int r = 0; r < 8; r++) {
                y.runner(r, r / 4, lines[r][0], lines[r][1]);
            }
            for (int p = q % 5; p <= 9999; p += 1427) {
                float sum = 0f;
                for (int[] line : lines) {
                    sum = sum + (float) (line[0] * q + line[1] * p) / (float) q;
                }
                heapIs(y, p, q, sum);
            }
        }
    }

    private static void heapTakesThoseIn() {
        KineticCup x = new KineticCup();
        Due.does(x, "h!b!");
        heapIs(x, 0, 1, 200f);
        Due.does(x, "a!c!d!e!f!");
        heapIs(x, 0, 1, 60f);
        x.runner(6, 1, 0, -1);
        heapIs(x, 1, 3, -1f / 3f);
        DUE.is("17: less than 0", x.heap(1, 3, 0), -1096111445L);
        x.runner(7, 1, 0, 1);
        heapIs(x, 1, 3, 0f);
        Due.does(x, "g!h!");
        heapIs(x, 1, 3, 0f);
    }

    /** The values add up to 0, the single numbers to a bit more or less than that. */
    private static void heapIsNotAsExact() {
        int[][] slopes = {{-8, 7, 1, 0, 0, 0, 0, 0}, {7, 1, 1, -2, 7, -14, 0, 0}, {10, 3, -13, 0, 0, 0, 0, 0},
            {-3, -9, -10, -8, 3, 27, 0, 0}, {0, 6, 8, -7, -7, 0, 0, 0}};
        int[][] times = {{6, 52}, {2, 19}, {6, 43}, {9, 56}, {3, 9}};
        int[] bits = {-1296039936, 872415232, -1275068416, 889192448, 889192448};
        for (int i = 0; i < bits.length; i++) {
            KineticCup x = new KineticCup();
            for (int r = 0; r < 8; r++) {
                x.runner(r, r / 4, 0, slopes[i][r]);
            }
            DUE.is("17: a bit is left", x.heap(times[i][0], times[i][1], 0), bits[i]);
            DUE.is("17: cut", x.heap(times[i][0], times[i][1], 1), 0);
        }
        KineticCup x = new KineticCup();
        for (int r = 0; r < 8; r++) {
            x.runner(r, r / 4, 0, new int[] {-8, 7, 1, 0, 0, 0, 0, 1}[r]);
        }
        float left = -8f * 6 / 52 + 7f * 6 / 52;
        left = left + 6f / 52f;
        heapIs(x, 6, 52, left + 6f / 52f);
    }
}
