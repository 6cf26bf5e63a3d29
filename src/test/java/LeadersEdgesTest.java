/** The boundary cases of "3 LEADS", of fractions and sets, and of promises 11 to 17. */
public final class LeadersEdgesTest {
    private static final Due DUE = new Due("LeadersEdgesTest");
    private static final int NONE = -6;
    private static final long OUTSIDE = KineticCup.LOST - 2;
    private static final long STATE = KineticCup.LOST - 3;

    public static void main(String[] args) {
        timesAtTheBounds();
        leadsAtTimesThatAreGone();
        leadsNone();
        leadsWhereThreeAreAsGreat();
        nextIsLaterThanNow();
        nextOfOneOrNone();
        nextIsTheGreatestMatch();
        nextIsNotAStaleOne();
        nextHasNoEnd();
        everFromNowOn();
        everThisIncluded();
        everNotTheMiddleOneOfThree();
        everAsBits();
        fractionsInLowestTerms();
        valuesFarOut();
        valueOfOneWhoIsOut();
        numberOfZero();
        numbersLessThanZero();
        numbersNextToPowersOfTwo();
        numbersAreTheNearest();
        heapOfNone();
        heapOfOneIsItsNumber();
        heapOfWhatComesToAlmostNothing();
        heapGoesByNumber();
        heapHalfWayIsEven();
        heapIsCutTowardsZero();
        heapAtTheBounds();
        DUE.end();
    }

    private static KineticCup with(int runner, int kind, int a, int b) {
        KineticCup x = new KineticCup();
        x.runner(runner, kind, a, b);
        return x;
    }

    private static KineticCup alone(int runner, int a, int b) {
        KineticCup x = new KineticCup();
        Due.does(x, "a!b!c!d!e!f!g!h!");
        x.runner(runner, 0, a, b);
        return x;
    }

    private static void timesAtTheBounds() {
        KineticCup x = with(0, 0, -1000, 50);
        int[][] times = {{0, 1}, {9999, 1}, {0, 100}, {9999, 100}};
        int[] leads = {7, 0, 7, 0};
        int[] ever = {128, 129, 128, 129};
        long[] upper = {-1000, 498950, -1000, 7999};
        long[] lower = {1, 1, 1, 2};
        for (int i = 0; i < times.length; i++) {
            int p = times[i][0];
            int q = times[i][1];
            String time = p + " by " + q;
            DUE.is("11: " + time, x.leads(p, q), leads[i]);
            DUE.is("14: " + time, x.ever(p, q), ever[i]);
            DUE.is("15: upper " + time, x.value(0, p, q, 0), upper[i]);
            DUE.is("15: lower " + time, x.value(0, p, q, 1), lower[i]);
            float single = (float) upper[i] / lower[i];
            DUE.is("16: " + time, x.number(0, p, q, 0), Float.floatToIntBits(single));
            DUE.is("16: cut " + time, x.number(0, p, q, 2), upper[i] / lower[i]);
            DUE.is("17: " + time, x.heap(p, q, 0), Float.floatToIntBits(single + 280));
        }
    }

    private static void leadsAtTimesThatAreGone() {
        KineticCup x = with(6, 1, 60, 1);
        Due.does(x, ".".repeat(20));
        DUE.is("11: now", x.leads(20, 1), 6);
        DUE.is("11: when it passed", x.leads(10, 1), 6);
        DUE.is("11: just ahead of that", x.leads(999, 100), 7);
        DUE.is("11: at the first second", x.leads(0, 1), 7);
        Due.does(x, "g-");
        // The line of g is 80 now, and was so.
        DUE.is("11: lines as they are now", x.leads(0, 1), 6);
        Due.does(x, "g!");
        DUE.is("11: in as it is now", x.leads(15, 1), 7);
    }

    private static void leadsNone() {
        KineticCup x = new KineticCup();
        Due.does(x, "a!b!c!d!e!f!g!h!");
        DUE.is("11: none", x.leads(0, 1), NONE);
        DUE.is("11: none", x.leads(9999, 100), NONE);
        DUE.is("11: OUTSIDE all the same", x.leads(-1, 1), -2);
        for (int r = 0; r < 8; r++) {
            DUE.is("11: one alone", alone(r, -1000, -50).leads(9999, 1), r);
        }
    }

    private static void leadsWhereThreeAreAsGreat() {
        KineticCup x = with(0, 0, 60, 1);
        x.runner(6, 1, 50, 2);
        DUE.is("11: just ahead", x.leads(999, 100), 7);
        DUE.is("11: the steepest", x.leads(10, 1), 6);
        DUE.is("11: behind it", x.leads(1001, 100), 6);
        x.runner(1, 0, 50, 2);
        DUE.is("11: of two as steep the less number", x.leads(10, 1), 1);
    }

    private static void nextIs(KineticCup x, long upper, long lower, int match) {
        DUE.is("12: upper", x.next(0), upper);
        DUE.is("12: lower", x.next(1), lower);
        DUE.is("13: match", x.where(), match);
    }

    private static void nextIsLaterThanNow() {
        KineticCup x = with(6, 1, 60, 1);
        nextIs(x, 10, 1, 7);
        Due.does(x, ".".repeat(9));
        nextIs(x, 10, 1, 7);
        Due.does(x, ".");
        nextIs(x, STATE, STATE, NONE);
        x.runner(6, 1, 60, 1);
        nextIs(x, STATE, STATE, NONE);
        x.runner(6, 1, 59, 1);
        nextIs(x, 11, 1, 7);
        x.runner(7, 1, 70, -49);
        x.runner(6, 1, -921, 50);
        // At 10 h is -420 and g -421.
        nextIs(x, 991, 99, 7);
    }

    private static void nextOfOneOrNone() {
        KineticCup x = new KineticCup();
        nextIs(x, STATE, STATE, NONE);
        x = alone(3, 0, 50);
        nextIs(x, STATE, STATE, NONE);
        x.runner(7, 1, 1, 49);
        nextIs(x, 1, 1, 1);
        Due.does(x, "d!h!");
        nextIs(x, STATE, STATE, NONE);
    }

    private static void nextIsTheGreatestMatch() {
        // g passes h at 10: matches 7, 3 and 1 have another winner then.
        KineticCup x = with(6, 1, 60, 1);
        nextIs(x, 10, 1, 7);
        // b passes f at 10: match 1 alone.
        x = with(5, 1, 100, 0);
        x.runner(1, 0, 90, 1);
        nextIs(x, 10, 1, 1);
        // c passes b at 10, and d, who is ahead of both, at match 1 as well: 2 is greater than 1.
        x = new KineticCup();
        x.runner(1, 0, 100, 0);
        x.runner(2, 0, 90, 1);
        nextIs(x, 10, 1, 2);
        // At 10 also e passes f, who wins nothing more than match 6.
        x.runner(4, 1, 40, 1);
        nextIs(x, 10, 1, 6);
    }

    private static void nextIsNotAStaleOne() {
        KineticCup x = with(5, 1, 50, 1);
        x.runner(6, 1, 60, 1);
        x.runner(0, 0, -20, 1);
        Due.does(x, ".".repeat(10));
        DUE.is("26: that of match 3 at 20, and of match 4 at 30", x.told(3), 2);
        nextIs(x, 30, 1, 4);
        Due.does(x, ".".repeat(20));
        nextIs(x, 50, 1, 2);
    }

    private static void nextHasNoEnd() {
        KineticCup x = with(6, 1, -1000, 1);
        x.runner(7, 1, 1000, 0);
        nextIs(x, 2000, 1, 7);
        Due.does(x, ".".repeat(60));
        Due.does(x, ".".repeat(39));
        nextIs(x, 2000, 1, 7);
        x.runner(7, 1, 970, 0);
        nextIs(x, 1970, 1, 7);
        x.runner(6, 1, -1000, 50);
        x.runner(7, 1, 1000, 30);
        nextIs(x, 100, 1, 7);
        x.runner(7, 1, 980, 30);
        nextIs(x, STATE, STATE, NONE);
    }

    private static void everFromNowOn() {
        KineticCup x = with(6, 1, 60, 1);
        DUE.is("14: now alone", x.ever(0, 1), 128);
        DUE.is("14: up to 10", x.ever(10, 1), 192);
        Due.does(x, ".".repeat(10));
        DUE.is("14: what is gone is gone", x.ever(10, 1), 64);
        DUE.is("14: now, told in another way", x.ever(1000, 100), 64);
        DUE.is("14: sooner", x.ever(999, 100), -2);
        DUE.is("14: sooner", x.ever(9, 1), -2);
        DUE.is("14: sooner", x.ever(0, 1), -2);
        DUE.is("14: later", x.ever(1001, 100), 64);
        Due.does(x, ".".repeat(60));
        Due.does(x, ".".repeat(29));
        DUE.is("14: at second 99", x.ever(99, 1), 64);
        DUE.is("14: at second 99", x.ever(9900, 100), 64);
        DUE.is("14: sooner", x.ever(9899, 100), -2);
        DUE.is("14: later", x.ever(9999, 100), 64);
    }

    private static void everThisIncluded() {
        KineticCup x = with(6, 1, 60, 7);
        // g passes h at 10/7.
        DUE.is("14: just ahead", x.ever(142, 100), 128);
        DUE.is("14: at it", x.ever(10, 7), 192);
        DUE.is("14: at it", x.ever(140, 98), 192);
        DUE.is("14: behind it", x.ever(143, 100), 192);
    }

    private static void everNotTheMiddleOneOfThree() {
        KineticCup x = with(0, 0, 60, 1);
        x.runner(6, 1, 50, 2);
        DUE.is("14: a is never ahead of both", x.ever(9999, 1), 192);
        x.runner(0, 0, 61, 1);
        DUE.is("14: a is, from 9 to 11", x.ever(9999, 1), 193);
        DUE.is("14: not yet", x.ever(899, 100), 128);
        DUE.is("14: from 9", x.ever(9, 1), 129);
        DUE.is("14: to 11", x.ever(1099, 100), 129);
        DUE.is("14: g from 11", x.ever(11, 1), 193);
        x.runner(0, 0, 59, 1);
        DUE.is("14: a is too late", x.ever(9999, 1), 192);
        // b has the line of g, and the less number.
        x.runner(1, 0, 50, 2);
        DUE.is("14: of two alike the less number", x.ever(9999, 1), 130);
    }

    private static void everAsBits() {
        KineticCup x = new KineticCup();
        Due.does(x, "a!b!c!d!e!f!g!h!");
        DUE.is("14: none", x.ever(9999, 1), 0);
        DUE.is("14: none now", x.ever(0, 1), 0);
        for (int r = 0; r < 8; r++) {
            DUE.is("14: one alone", alone(r, 0, 0).ever(9999, 1), 1 << r);
        }
        // The slope of each is 1 more; each leads for two seconds, and h for ever.
        x = new KineticCup();
        for (int r = 0; r < 8; r++) {
            x.runner(r, r / 4, -r * (r + 1), r);
        }
        for (int r = 1; r < 8; r++) {
            DUE.is("14: up to " + r, x.ever(2 * r, 1), (2 << r) - 1);
            DUE.is("14: just ahead of " + r, x.ever(200 * r - 1, 100), (1 << r) - 1);
        }
        DUE.is("14: all", x.ever(9999, 1), 255);
    }

    private static void valueIs(KineticCup x, int p, int q, long upper, long lower) {
        DUE.is("15: upper of " + p + " by " + q, x.value(4, p, q, 0), upper);
        DUE.is("15: lower of " + p + " by " + q, x.value(4, p, q, 1), lower);
    }

    private static void fractionsInLowestTerms() {
        KineticCup x = with(4, 1, 0, 1);
        valueIs(x, 0, 100, 0, 1);
        valueIs(x, 50, 100, 1, 2);
        valueIs(x, 100, 100, 1, 1);
        valueIs(x, 99, 100, 99, 100);
        valueIs(x, 1, 100, 1, 100);
        valueIs(x, 9999, 99, 101, 1);
        valueIs(x, 9996, 98, 102, 1);
        valueIs(x, 36, 60, 3, 5);
        x.runner(4, 1, 0, -1);
        valueIs(x, 0, 7, 0, 1);
        valueIs(x, 50, 100, -1, 2);
        valueIs(x, 100, 100, -1, 1);
        valueIs(x, 99, 100, -99, 100);
        valueIs(x, 36, 60, -3, 5);
        x.runner(4, 1, -1, 1);
        valueIs(x, 100, 100, 0, 1);
        valueIs(x, 99, 100, -1, 100);
        valueIs(x, 101, 100, 1, 100);
    }

    private static void valuesFarOut() {
        KineticCup x = with(4, 1, 1000, 50);
        valueIs(x, 9999, 1, 500950, 1);
        valueIs(x, 9999, 100, 11999, 2);
        x.runner(4, 1, -1000, -50);
        valueIs(x, 9999, 1, -500950, 1);
        valueIs(x, 9999, 100, -11999, 2);
        Due.does(x, ".".repeat(60));
        Due.does(x, ".".repeat(39));
        for (int i = 0; i < 3; i++) {
            Due.does(x, "e+".repeat(30));
        }
        Due.does(x, "e+".repeat(10));
        valueIs(x, 0, 1, -10900, 1);
        valueIs(x, 99, 1, -5950, 1);
        valueIs(x, 9999, 1, 489050, 1);
        valueIs(x, 1, 97, -1057250, 97);
    }

    private static void valueOfOneWhoIsOut() {
        KineticCup x = with(4, 1, 3, -2);
        Due.does(x, "e!");
        valueIs(x, 5, 6, 4, 3);
        DUE.is("16: out", x.number(4, 5, 6, 0), Float.floatToIntBits(4f / 3f));
        DUE.is("17: not in the heap", x.heap(5, 6, 1), 240);
    }

    private static void numberIs(KineticCup x, int p, int q, int upper) {
        float single = (float) upper / q;
        String time = p + " by " + q;
        DUE.is("16: single, " + time, x.number(4, p, q, 0), Float.floatToIntBits(single));
        DUE.is("16: double, " + time, x.number(4, p, q, 1), Double.doubleToLongBits((double) upper / q));
        DUE.is("16: cut, " + time, x.number(4, p, q, 2), (long) single);
    }

    private static void numberOfZero() {
        int[][] lines = {{0, 0}, {-1, 1}, {1, -1}};
        for (int[] line : lines) {
            KineticCup x = with(4, 1, line[0], line[1]);
            for (int what = 0; what < 3; what++) {
                DUE.is("16: 0 has no bits", x.number(4, 100, 100, what), 0);
            }
        }
    }

    private static void numbersLessThanZero() {
        KineticCup x = with(4, 1, 0, -1);
        DUE.is("16: -1, single", x.number(4, 1, 1, 0), 0xBF800000);
        DUE.is("16: -1, double", x.number(4, 1, 1, 1), 0xBFF0000000000000L);
        DUE.is("16: -1, cut", x.number(4, 1, 1, 2), -1);
        DUE.is("16: -1/100, single", x.number(4, 1, 100, 0), 0xBC23D70A);
        DUE.is("16: -1/100, double", x.number(4, 1, 100, 1), 0xBF847AE147AE147BL);
        DUE.is("16: -1/100, cut", x.number(4, 1, 100, 2), 0);
        DUE.is("16: -99/100, cut", x.number(4, 99, 100, 2), 0);
        DUE.is("16: -199/100, cut", x.number(4, 199, 100, 2), -1);
        DUE.is("16: -2, cut", x.number(4, 200, 100, 2), -2);
        x.runner(4, 1, 0, 1);
        DUE.is("16: 1/100, single", x.number(4, 1, 100, 0), 0x3C23D70A);
        DUE.is("16: 1/100, double", x.number(4, 1, 100, 1), 0x3F847AE147AE147BL);
        DUE.is("16: 99/100, cut", x.number(4, 99, 100, 2), 0);
        DUE.is("16: 199/100, cut", x.number(4, 199, 100, 2), 1);
    }

    private static void numbersNextToPowersOfTwo() {
        KineticCup x = with(4, 1, 0, 1);
        KineticCup y = with(4, 1, 0, -1);
        for (int power = 1; power <= 64; power *= 2) {
            for (int q = 97; q <= 100; q++) {
                numberIs(x, power * q - 1, q, power * q - 1);
                numberIs(y, power * q + 1, q, -power * q - 1);
            }
            numberIs(x, 1, power, 1);
            numberIs(y, power, 1, -power);
        }
    }

    private static void numbersAreTheNearest() {
        int[] slopes = {1, -1, 7, -49, 50};
        for (int slope : slopes) {
            for (int from = 0; from < 100; from += 50) {
                KineticCup x = with(4, 1, 1000, slope);
                for (int q = from + 1; q <= from + 50; q++) {
                    numberIs(x, 9999, q, 1000 * q + 9999 * slope);
                    numberIs(x, q - 1, q, 1000 * q + (q - 1) * slope);
                }
            }
        }
    }

    private static void heapIs(KineticCup x, int p, int q, float sum) {
        DUE.is("17: bits, " + p + " by " + q, x.heap(p, q, 0), Float.floatToIntBits(sum));
        DUE.is("17: cut, " + p + " by " + q, x.heap(p, q, 1), (long) sum);
    }

    private static void heapOfNone() {
        KineticCup x = new KineticCup();
        Due.does(x, "a!b!c!d!e!f!g!h!");
        DUE.is("17: 0", x.heap(9999, 100, 0), 0);
        DUE.is("17: 0", x.heap(9999, 100, 1), 0);
        x.runner(0, 0, 0, -1);
        heapIs(x, 1, 3, -1f / 3f);
        x.runner(7, 1, 0, 1);
        DUE.is("17: as much as less is 0, without a sign", x.heap(1, 3, 0), 0);
        DUE.is("17: cut", x.heap(1, 3, 1), 0);
        for (int r = 0; r < 8; r++) {
            heapIs(alone(r, -7, 1), 1, 9, -62f / 9f);
        }
    }

    /** The least values have their last bit farthest down. */
    private static void heapOfOneIsItsNumber() {
        for (int sign = -1; sign <= 1; sign += 2) {
            KineticCup x = alone(4, 0, sign);
            for (int q = 1; q <= 100; q++) {
                DUE.is("17: as its number, 1 by " + q, x.heap(1, q, 0), x.number(4, 1, q, 0));
                heapIs(x, 1, q, (float) sign / q);
            }
        }
    }

    private static void heapOfWhatComesToAlmostNothing() {
        int left = 0;
        for (int q = 51; q <= 100; q++) {
            KineticCup x = alone(0, 0, -8);
            x.runner(1, 0, 0, 7);
            x.runner(2, 0, 0, 1);
            for (int p = 1; p <= 9; p++) {
                float sum = -8f * p / q + 7f * p / q + (float) p / q;
                left += sum != 0 ? 1 : 0;
                heapIs(x, p, q, sum);
            }
        }
        DUE.isTrue("17: often a bit is left: " + left, left > 50);
    }

    /** The same values in another order come to another sum; a place is no order. */
    private static void heapGoesByNumber() {
        float third = 1f / 3f;
        float large = 1000f + third;
        KineticCup x = alone(4, 1000, 1);
        for (int r = 5; r < 8; r++) {
            x.runner(r, 1, 0, 1);
        }
        float largeFirst = large + third + third + third;
        heapIs(x, 1, 3, largeFirst);
        Due.does(x, "e%hf%g");
        heapIs(x, 1, 3, largeFirst);
        x.runner(4, 1, 0, 1);
        x.runner(7, 1, 1000, 1);
        float largeLast = third + third + third + large;
        DUE.isTrue("17: these differ", largeFirst != largeLast);
        heapIs(x, 1, 3, largeLast);
    }

    /** Two single numbers of 24 bits whose sum has 25: it lies half way between two others. */
    private static void heapHalfWayIsEven() {
        int up = 0;
        int down = 0;
        for (int q = 3; q <= 99; q += 2) {
            KineticCup x = alone(0, 1, 1);
            x.runner(1, 0, 1, 0);
            for (int p = 1; p < q && p <= 12; p++) {
                x.runner(1, 0, 1, p);
                float one = (float) (q + 1) / q;
                float other = (float) (q + p) / q;
                double exact = (double) one + (double) other;
                float sum = one + other;
                double step = Math.ulp(sum);
                if (Math.abs(exact - sum) * 2 == step) {
                    up += sum > exact ? 1 : 0;
                    down += sum < exact ? 1 : 0;
                }
                heapIs(x, 1, q, sum);
            }
        }
        DUE.isTrue("17: up to an even one: " + up, up > 20);
        DUE.isTrue("17: down to an even one: " + down, down > 20);
    }

    private static void heapIsCutTowardsZero() {
        KineticCup x = alone(0, 0, -1);
        DUE.is("17: -199/100", x.heap(199, 100, 1), -1);
        DUE.is("17: -99/100", x.heap(99, 100, 1), 0);
        DUE.is("17: -1", x.heap(100, 100, 1), -1);
        x.runner(0, 0, 0, 1);
        DUE.is("17: 199/100", x.heap(199, 100, 1), 1);
        DUE.is("17: 99/100", x.heap(99, 100, 1), 0);
        // Thrice a third is 1 as single numbers too; what is cut is the sum, not each.
        x.runner(1, 0, 0, 1);
        x.runner(2, 0, 0, 1);
        DUE.is("17: thrice a third", x.heap(1, 3, 1), (long) (1f / 3f + 1f / 3f + 1f / 3f));
        DUE.is("17: thrice two thirds", x.heap(2, 3, 1), (long) (2f / 3f + 2f / 3f + 2f / 3f));
    }

    private static void heapAtTheBounds() {
        for (int sign = -1; sign <= 1; sign += 2) {
            KineticCup x = new KineticCup();
            for (int r = 0; r < 8; r++) {
                x.runner(r, 0, sign * 1000, sign * 50);
            }
            for (int q = 1; q <= 100; q += 3) {
                float each = (float) (sign * (1000 * q + 50 * 9999)) / q;
                float sum = 0;
                for (int r = 0; r < 8; r++) {
                    sum += each;
                }
                heapIs(x, 9999, q, sum);
            }
        }
    }
}
