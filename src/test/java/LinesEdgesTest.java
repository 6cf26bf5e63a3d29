/** The boundary cases of "4 A LINE", and of promises 18 to 26. */
public final class LinesEdgesTest {
    private static final Due DUE = new Due("LinesEdgesTest");
    private static final int NONE = -6;
    private static final int OUTSIDE = -2;
    private static final int STATE = -3;
    private static final int FULL = -4;

    public static void main(String[] args) {
        sightsAtTheBounds();
        sightsAre8AtMost();
        forgetNothing();
        atLeastOrLess();
        linesOfAll();
        linesBelowAndPast();
        linesOfNone();
        linesRise();
        askOfNone();
        askAtTheLastTime();
        askOfOne();
        askKeepsVWithinTheBounds();
        askTellsTheLeast();
        crossAtAndBelowZero();
        crossInLowestTerms();
        crossOfAnyTwo();
        runAtTheBounds();
        runBySeed0();
        runWrapsAround();
        runLeavesOutWhatCanNotBe();
        runAtTheLastSecond();
        runGoesFromAllAsItIs();
        runOfNone();
        imagesAreTwo();
        imageKeepsAllButThePad();
        imageOfANewObject();
        imageKeepsWhatWasSeen();
        imageIsKeptOverAgain();
        restoreAtTheLastSecond();
        toldAtTheBounds();
        DUE.end();
    }

    private static void sightsAtTheBounds() {
        KineticCup x = new KineticCup();
        DUE.is("18: least", x.seen(0, -99, true), 1);
        DUE.is("18: all fit", x.lines(-1), 589);
        DUE.is("18: most", x.seen(9, 99, false), 2);
        // Past 98 at 9 are 18 and more by 9, and 27 and more by 8.
        DUE.is("18: these do not fit", x.lines(-1), 589 - 13 - 4);
        DUE.is("18: t 0, v 99", x.seen(0, 99, false), 3);
        DUE.is("18: t 9, v -99", x.seen(9, -99, true), 4);
        DUE.is("18: no more", x.lines(-1), 589 - 13 - 4);
        DUE.is("18: t 10", x.seen(10, 0, true), OUTSIDE);
        DUE.is("18: t -1", x.seen(-1, 0, true), OUTSIDE);
        DUE.is("18: v 100", x.seen(0, 100, true), OUTSIDE);
        DUE.is("18: v -100", x.seen(0, -100, true), OUTSIDE);
        DUE.is("26: four", x.told(4), 4);
    }

    private static void sightsAre8AtMost() {
        KineticCup x = new KineticCup();
        for (int i = 0; i < 7; i++) {
            DUE.is("18: sight", x.seen(i, 5, true), i + 1);
        }
        DUE.is("18: the eighth", x.seen(0, 30, true), 8);
        DUE.is("20: it counts", x.lines(0) / 100, 30);
        DUE.is("18: a ninth", x.seen(0, 30, false), FULL);
        DUE.is("18: a ninth", x.seen(0, 30, false), FULL);
        DUE.is("20: it does not count", x.lines(0) / 100, 30);
        DUE.is("26: eight", x.told(4), 8);
        DUE.is("19: eight go", x.forget(), 8);
        DUE.is("18: the first again", x.seen(0, 30, false), 1);
        DUE.is("20: the others are gone", x.lines(-1), 570);
    }

    private static void forgetNothing() {
        KineticCup x = new KineticCup();
        DUE.is("19: none", x.forget(), 0);
        x.seen(0, 0, true);
        DUE.is("19: one", x.forget(), 1);
        DUE.is("19: none again", x.forget(), 0);
        DUE.is("20: all fit", x.lines(-1), 589);
    }

    private static void atLeastOrLess() {
        KineticCup x = new KineticCup();
        x.seen(0, 30, true);
        DUE.is("20: 30 is 30 at least", x.lines(-1), 19);
        DUE.is("20: A is 30", x.lines(0), 3041);
        x.forget();
        x.seen(0, 30, false);
        DUE.is("20: 30 is not less than 30", x.lines(-1), 570);
        DUE.is("20: A is 29 at most", x.lines(569), 2959);
        x.forget();
        x.seen(0, 0, false);
        DUE.is("20: none is less than 0 at 0", x.lines(-1), 0);
        x.forget();
        x.seen(0, 0, true);
        DUE.is("20: all are 0 at least at 0", x.lines(-1), 589);
        x.forget();
        x.seen(0, 31, true);
        DUE.is("20: none is 31", x.lines(-1), 0);
        x.forget();
        // A and 9 times B: 81 less at the least.
        x.seen(9, -80, false);
        DUE.is("20: the least line", x.lines(-1), 1);
        DUE.is("20: 0 and -9", x.lines(0), 41);
        x.forget();
        x.seen(9, -81, false);
        DUE.is("20: none is less", x.lines(-1), 0);
        // The same sight both ways leaves none.
        x.forget();
        x.seen(5, 5, true);
        int left = x.lines(-1);
        x.seen(5, 5, false);
        DUE.is("20: none", x.lines(-1), 0);
        x.forget();
        x.seen(5, 5, false);
        DUE.is("20: either one way or the other", x.lines(-1) + left, 589);
    }

    private static void linesOfAll() {
        KineticCup x = new KineticCup();
        DUE.is("20: all", x.lines(-1), 31 * 19);
        DUE.is("20: first", x.lines(0), 41);
        DUE.is("20: the last of A 0", x.lines(18), 59);
        DUE.is("20: the first of A 1", x.lines(19), 141);
        DUE.is("20: the last but one", x.lines(587), 3058);
        DUE.is("20: last", x.lines(588), 3059);
    }

    private static void linesBelowAndPast() {
        KineticCup x = new KineticCup();
        for (int i : new int[] {589, 590, -2, -3, 1000000, Integer.MIN_VALUE, Integer.MAX_VALUE}) {
            DUE.is("20: none at " + i, x.lines(i), NONE);
        }
        x.seen(0, 30, true);
        DUE.is("20: the last", x.lines(18), 3059);
        DUE.is("20: past it, where others were", x.lines(19), NONE);
        DUE.is("20: past it", x.lines(588), NONE);
    }

    private static void linesOfNone() {
        KineticCup x = new KineticCup();
        x.seen(0, 99, true);
        DUE.is("20: how many", x.lines(-1), 0);
        DUE.is("20: none", x.lines(0), NONE);
        DUE.is("20: none", x.lines(1), NONE);
        DUE.is("20: none", x.lines(-2), NONE);
    }

    private static void linesRise() {
        KineticCup x = new KineticCup();
        x.seen(4, 20, true);
        x.seen(2, 21, false);
        int many = x.lines(-1);
        DUE.isTrue("20: some fit", many > 50 && many < 400);
        for (int i = 1; i < many; i++) {
            DUE.isTrue("20: rising", x.lines(i) > x.lines(i - 1));
            if (i > 200) {
                break;
            }
        }
        DUE.is("20: past them", x.lines(many), NONE);
    }

    private static void askOfNone() {
        KineticCup x = new KineticCup();
        x.seen(0, 31, true);
        DUE.is("21: nothing fits", x.ask(0), NONE);
        DUE.is("21: nothing fits", x.ask(1), NONE);
        DUE.is("21: OUTSIDE all the same", x.ask(2), OUTSIDE);
        DUE.is("21: OUTSIDE all the same", x.ask(-1), OUTSIDE);
        x.forget();
        DUE.is("21: of all", x.ask(0), 8515);
        DUE.is("21: of all", x.ask(1), 296);
        x.seen(0, 0, false);
        DUE.is("21: nothing fits any more", x.ask(0), NONE);
        DUE.is("21: nothing fits any more", x.ask(1), NONE);
    }

    private static void askAtTheLastTime() {
        KineticCup x = new KineticCup();
        x.seen(7, -1, true);
        x.seen(4, 12, false);
        DUE.is("21: at 9", x.ask(0), 9504);
        DUE.is("21: at 9", x.ask(1), 23);
    }

    private static void askOfOne() {
        KineticCup x = new KineticCup();
        x.seen(9, -80, false);
        DUE.is("21: one is left, whatever is seen: the least", x.ask(0), 401);
        DUE.is("21: one", x.ask(1), 1);
    }

    /** Two lines that part only past 99: no look at 8 or 9 tells them apart. */
    private static void askKeepsVWithinTheBounds() {
        KineticCup x = new KineticCup();
        x.seen(0, 30, true);
        x.seen(8, 99, true);
        DUE.is("20: one, 30 and 9", x.lines(-1), 1);
        x.forget();
        x.seen(0, 29, true);
        x.seen(8, 99, true);
        DUE.is("20: 29 or 30, and 9", x.lines(-1), 2);
        DUE.is("21: at 0", x.ask(0), 530);
        DUE.is("21: one is left", x.ask(1), 1);
        x.forget();
        x.seen(0, 30, true);
        x.seen(9, 99, true);
        DUE.is("20: 30, and 8 or 9", x.lines(-1), 2);
        DUE.is("21: at 1", x.ask(0), 1539);
    }

    private static void askTellsTheLeast() {
        KineticCup x = new KineticCup();
        x.seen(0, 1, false);
        x.seen(1, 8, true);
        DUE.is("20: 0, and 8 or 9", x.lines(-1), 2);
        DUE.is("21: of many looks the least t, of these the least v", x.ask(0), 1509);
        DUE.is("21: one is left", x.ask(1), 1);
        x.forget();
        x.seen(0, 1, false);
        x.seen(1, -7, false);
        DUE.is("20: 0, and -9 or -8", x.lines(-1), 2);
        DUE.is("21: less than 0", x.ask(0), 1492);
        x.forget();
        x.seen(0, 1, false);
        x.seen(1, 7, true);
        DUE.is("20: three", x.lines(-1), 3);
        DUE.is("21: two at the most, 8 ahead of 9", x.ask(0), 1508);
        DUE.is("21: two", x.ask(1), 2);
    }

    private static void crossIs(KineticCup x, int one, int other, long upper, long lower) {
        DUE.is("22: upper of " + one + ", " + other, x.cross(one, other, 0), upper);
        DUE.is("22: lower of " + one + ", " + other, x.cross(one, other, 1), lower);
        DUE.is("22: upper of " + other + ", " + one, x.cross(other, one, 0), upper);
        DUE.is("22: lower of " + other + ", " + one, x.cross(other, one, 1), lower);
    }

    private static void crossAtAndBelowZero() {
        KineticCup x = new KineticCup();
        x.runner(7, 1, 60, 3);
        crossIs(x, 6, 7, 0, 1);
        x.runner(7, 1, 61, 3);
        crossIs(x, 6, 7, -1, 3);
        x.runner(7, 1, 59, 3);
        crossIs(x, 6, 7, 1, 3);
        x.runner(7, 1, 1000, 1);
        x.runner(6, 1, -1000, 0);
        crossIs(x, 6, 7, -2000, 1);
        x.runner(7, 1, 1000, -1);
        crossIs(x, 6, 7, 2000, 1);
        Due.does(x, ".".repeat(60));
        crossIs(x, 6, 7, 2000, 1);
        crossIs(x, 0, 7, 1000, 1);
    }

    private static void crossInLowestTerms() {
        KineticCup x = new KineticCup();
        x.runner(6, 1, 0, 50);
        x.runner(7, 1, 75, -50);
        crossIs(x, 6, 7, 3, 4);
        x.runner(7, 1, 1, -50);
        crossIs(x, 6, 7, 1, 100);
        x.runner(7, 1, -1, -50);
        crossIs(x, 6, 7, -1, 100);
        x.runner(7, 1, 1000, -50);
        crossIs(x, 6, 7, 10, 1);
        x.runner(7, 1, -999, 49);
        crossIs(x, 6, 7, -999, 1);
        DUE.is("22: slopes are as great", x.cross(0, 1, 0), KineticCup.LOST + STATE);
        x.runner(7, 1, 0, 50);
        DUE.is("22: the same line", x.cross(6, 7, 1), KineticCup.LOST + STATE);
    }

    private static void crossOfAnyTwo() {
        KineticCup x = new KineticCup();
        for (int r = 0; r < 8; r++) {
            x.runner(r, 0, 10 * r, r);
        }
        Due.does(x, "a!h!");
        for (int one = 0; one < 8; one++) {
            for (int other = 0; other < one; other++) {
                crossIs(x, one, other, -10, 1);
            }
        }
    }

    private static void runAtTheBounds() {
        KineticCup x = new KineticCup();
        DUE.is("23: seed 0, 1 act", x.run(0, 1, 0), 7);
        DUE.is("23: seed 0, 1 act", x.run(0, 1, 1), 0);
        DUE.is("23: seed 0, 1 act", x.run(0, 1, 2), 0);
        DUE.is("23: seed 9999, 99 acts", x.run(9999, 99, 0), 6);
        DUE.is("23: seed 9999, 99 acts", x.run(9999, 99, 1), 2);
        DUE.is("23: seed 9999, 99 acts", x.run(9999, 99, 2), 0);
        for (int seed : new int[] {-1, 10000}) {
            DUE.is("23: seed " + seed, x.run(seed, 1, 0), OUTSIDE);
        }
        for (int m : new int[] {0, 100}) {
            DUE.is("23: m " + m, x.run(0, m, 0), OUTSIDE);
        }
        for (int what : new int[] {-1, 3}) {
            DUE.is("23: what " + what, x.run(0, 1, what), OUTSIDE);
        }
    }

    /** 0 draws 74, by which c would be slower, which it can not be, and 5624, a second. */
    private static void runBySeed0() {
        KineticCup x = new KineticCup();
        x.runner(6, 1, 69, 1);
        DUE.is("23: one act", x.run(0, 1, 1), 0);
        DUE.is("23: two acts", x.run(0, 2, 1), 1);
        DUE.is("23: g leads", x.run(0, 2, 0), 6);
    }

    /** Seeds whose first draw sends h out tell how x is left over by 65537. */
    private static void runWrapsAround() {
        KineticCup x = new KineticCup();
        int found = 0;
        for (int seed = 860; seed < 10000 && found < 200; seed++) {
            int draw = (75 * seed + 74) % 65537;
            boolean out = draw % 8 == 7 && draw / 8 % 8 == 2;
            if (out || seed % 97 == 0) {
                found++;
                DUE.is("23: seed " + seed, x.run(seed, 1, 0), out ? 6 : 7);
            }
        }
        DUE.isTrue("23: some wrap around: " + found, found > 150);
        // 873 draws 65549, which is left over as 12: e is slower.
        x.runner(4, 1, 100, 0);
        x.runner(5, 1, 100, 0);
        DUE.is("23: e leads", x.told(2), 4);
        DUE.is("23: f leads behind 873", x.run(873, 1, 0), 5);
    }

    /** The first seed that draws that act for that runner. */
    private static int seedOf(int runner, int deed, int other) {
        for (int seed = 0; seed < 10000; seed++) {
            int x = (75 * seed + 74) % 65537;
            if (x % 8 == runner && x / 8 % 8 == deed && (deed != 4 || x / 64 % 8 == other)) {
                return seed;
            }
        }
        return -1;
    }

    /** One act alone is drawn that can not be: who leads is as it was. */
    private static void runLeavesOutWhatCanNotBe() {
        KineticCup x = new KineticCup();
        x.runner(7, 1, 70, 50);
        x.runner(6, 1, 70, 49);
        DUE.is("23: h, faster than 50", x.run(seedOf(7, 0, 0), 1, 0), 7);
        DUE.is("23: g, faster: as great, as steep, less", x.run(seedOf(6, 0, 0), 1, 0), 6);
        x.runner(7, 1, 70, -50);
        x.runner(6, 1, 70, -50);
        DUE.is("23: g, slower than -50", x.run(seedOf(6, 1, 0), 1, 0), 6);
        DUE.is("23: h, faster", x.run(seedOf(7, 0, 0), 1, 0), 7);
        x.runner(6, 0, 70, -50);
        DUE.is("23: g is steady, so it is not faster", x.run(seedOf(6, 0, 0), 1, 0), 6);
        DUE.is("23: g goes out", x.run(seedOf(6, 2, 0), 1, 0), 7);
        DUE.is("23: g comes in, where it is", x.run(seedOf(6, 3, 0), 1, 0), 6);
        Due.does(x, "g!");
        DUE.is("23: g goes out, where it is", x.run(seedOf(6, 2, 0), 1, 0), 7);
        DUE.is("23: g comes in", x.run(seedOf(6, 3, 0), 1, 0), 6);
        exchangesInRuns();
    }

    /** Any exchange that can be empties the queue; then no stale one is taken any more. */
    private static void exchangesInRuns() {
        KineticCup x = new KineticCup();
        x.runner(5, 1, 50, 1);
        x.runner(6, 1, 60, 1);
        Due.does(x, ".".repeat(10));
        Due.does(x, ".".repeat(9));
        DUE.is("26: one that is stale is due at 20", x.told(3), 1);
        int found = 0;
        for (int one = 0; one < 8; one++) {
            for (int other = 0; other < 8; other++) {
                int seed = seedWithASecond(one, other);
                if (seed >= 0) {
                    found++;
                    boolean exchange = one != other && one / 4 == other / 4;
                    String pair = one + ", " + other;
                    DUE.is("23: stale, exchange of " + pair, x.run(seed, 2, 2), exchange ? 0 : 1);
                    // Only where h comes to f, who passes it at 20, there is an event.
                    boolean event = one + other == 4 + 7 && exchange;
                    DUE.is("23: events, exchange of " + pair, x.run(seed, 2, 1), event ? 1 : 0);
                }
            }
        }
        DUE.isTrue("23: most pairs are drawn: " + found, found > 40);
        int selves = 0;
        for (int one = 0; one < 8; one++) {
            selves += seedWithASecond(one, one) >= 0 ? 1 : 0;
        }
        DUE.isTrue("23: some with themselves: " + selves, selves > 2);
    }

    /** A seed that draws an exchange of those two, and then a second; or -1. */
    private static int seedWithASecond(int runner, int other) {
        for (int seed = 0; seed < 10000; seed++) {
            int x = (75 * seed + 74) % 65537;
            int y = (75 * x + 74) % 65537;
            if (x % 8 == runner && x / 8 % 8 == 4 && x / 64 % 8 == other && y / 8 % 8 >= 5) {
                return seed;
            }
        }
        return -1;
    }

    private static void runAtTheLastSecond() {
        int seed = seedOf(0, 5, 0);
        for (int second = 98; second <= 99; second++) {
            KineticCup x = new KineticCup();
            Due.does(x, ".".repeat(60));
            Due.does(x, ".".repeat(second - 60));
            x.runner(6, 1, -1000, 50);
            // g passes h at 99, or at 100, which never comes.
            x.runner(7, 1, second == 98 ? 980 : 1000, 30);
            DUE.is("26: g will pass h", x.told(3), 1);
            DUE.is("23: events, from " + second, x.run(seed, 1, 1), second == 98 ? 1 : 0);
            DUE.is("23: leads, from " + second, x.run(seed, 1, 0), second == 98 ? 6 : 7);
        }
        for (int deed = 5; deed <= 7; deed++) {
            KineticCup x = new KineticCup();
            x.runner(6, 1, 69, 1);
            DUE.is("23: a second by " + deed, x.run(seedOf(3, deed, 0), 1, 1), 1);
        }
    }

    private static void runGoesFromAllAsItIs() {
        KineticCup x = new KineticCup();
        int seed = seedOf(0, 6, 0);
        x.runner(6, 1, 69, 1);
        DUE.is("23: an event", x.run(seed, 1, 1), 1);
        DUE.is("23: again, as nothing is done", x.run(seed, 1, 1), 1);
        Due.does(x, ".");
        DUE.is("23: none now", x.run(seed, 1, 1), 0);
        DUE.is("23: g leads", x.run(seed, 1, 0), 6);
        Due.pad(x, "g!x");
        DUE.is("23: the pad is not looked at", x.run(seed, 1, 0), 6);
        DUE.is("26: the pad stays", x.told(0), 3);
        DUE.is("26: the second", x.told(1), 1);
    }

    private static void runOfNone() {
        KineticCup x = new KineticCup();
        Due.does(x, "a!b!c!d!e!f!g!h!");
        DUE.is("23: none", x.run(seedOf(0, 5, 0), 1, 0), NONE);
        DUE.is("23: none", x.run(seedOf(3, 2, 0), 1, 0), NONE);
        for (int r = 0; r < 8; r++) {
            DUE.is("23: one comes in", x.run(seedOf(r, 3, 0), 1, 0), r);
        }
    }

    private static void imagesAreTwo() {
        KineticCup x = new KineticCup();
        for (int n : new int[] {-1, 2}) {
            DUE.is("24: image " + n, x.image(n), OUTSIDE);
            DUE.is("25: image " + n, x.restore(n), OUTSIDE);
        }
        DUE.is("25: not kept", x.restore(0), STATE);
        DUE.is("25: not kept", x.restore(1), STATE);
        x.runner(7, 1, 0, 0);
        DUE.is("24: image 1", x.image(1), 1);
        DUE.is("25: not kept", x.restore(0), STATE);
        x.runner(6, 1, 0, 0);
        DUE.is("24: image 0", x.image(0), 1);
        DUE.is("25: image 1", x.restore(1), 1);
        DUE.is("25: g leads", x.told(2), 6);
        DUE.is("25: image 0 is kept still", x.restore(0), 1);
        DUE.is("25: f leads", x.told(2), 5);
        DUE.is("25: image 1 again", x.restore(1), 1);
        DUE.is("25: g leads", x.told(2), 6);
    }

    private static void imageKeepsAllButThePad() {
        KineticCup x = new KineticCup();
        Due.pad(x, "h!");
        x.image(0);
        x.wipe();
        DUE.is("25: restored", x.restore(0), 1);
        DUE.is("25: the pad is not", x.told(0), 0);
        Due.pad(x, "g!..");
        x.restore(0);
        DUE.is("25: the pad stays", x.told(0), 4);
        DUE.is("25: with its text", x.then(0), 2);
        DUE.is("25: g", x.behind(6, 0), 0);
        DUE.is("25: h", x.behind(7, 0), 1);
        Due.pad(x, ".".repeat(60));
        x.image(0);
        x.restore(0);
        DUE.is("25: full still", x.say('.'), FULL);
    }

    private static void imageOfANewObject() {
        KineticCup x = new KineticCup();
        x.image(0);
        x.runner(6, 1, -60, 40);
        x.seen(1, 1, true);
        x.seen(1, 2, true);
        Due.does(x, "..a%dh!...");
        x.runner(5, 0, 7, 7);
        x.restore(0);
        KineticCup y = new KineticCup();
        y.image(0);
        DUE.isTrue("25: as new", Look.at(x).isLike(Look.at(y)));
    }

    /** Sights of another time, key and sense: each of the three must come back. */
    private static void imageKeepsWhatWasSeen() {
        KineticCup x = new KineticCup();
        x.seen(0, 1, false);
        x.seen(1, 7, true);
        x.image(0);
        x.forget();
        x.seen(9, 5, true);
        x.seen(3, -4, false);
        x.restore(0);
        DUE.is("25: 0, and 7, 8 or 9", x.lines(-1), 3);
        DUE.is("25: the first", x.lines(0), 57);
        DUE.is("25: the last", x.lines(2), 59);
        DUE.is("25: ask", x.ask(0), 1508);
    }

    private static void imageIsKeptOverAgain() {
        KineticCup x = new KineticCup();
        for (int i = 0; i < 5; i++) {
            x.runner(7, 1, i, i);
            x.seen(i, i, true);
            DUE.is("24: kept", x.image(1), 1);
        }
        x.runner(7, 1, 9, 9);
        x.forget();
        DUE.is("25: the last one", x.restore(1), 1);
        DUE.is("25: B", x.told(47), 4);
        DUE.is("25: sights", x.told(4), 5);
        // What is done behind that does not change what was kept.
        x.runner(7, 1, 9, 9);
        x.forget();
        DUE.is("25: once more", x.restore(1), 1);
        DUE.is("25: B", x.told(47), 4);
        DUE.is("25: sights", x.told(4), 5);
        x.seen(9, 9, true);
        x.seen(9, 9, true);
        DUE.is("18: the eighth", x.seen(9, 9, true), 8);
        x.image(0);
        x.restore(1);
        DUE.is("18: a sixth", x.seen(0, 0, true), 6);
        x.restore(0);
        DUE.is("18: full again", x.seen(0, 0, true), FULL);
    }

    private static void restoreAtTheLastSecond() {
        KineticCup x = new KineticCup();
        x.image(0);
        Due.does(x, ".".repeat(60));
        Due.does(x, ".".repeat(39));
        x.image(1);
        x.restore(0);
        DUE.is("25: second 0", x.told(1), 0);
        DUE.is("7: a second again", Due.does(x, "."), 1);
        x.restore(1);
        DUE.is("25: second 99", x.told(1), 99);
        DUE.is("7: no second", Due.does(x, "."), -5);
        x.restore(0);
        DUE.is("14: from 0 on", x.ever(0, 1), 128);
    }

    private static void toldAtTheBounds() {
        KineticCup x = new KineticCup();
        int[] whats = {0, 4, 10, 17, 20, 27, 30, 37, 40, 47, 51, 57};
        int[] due = {0, 0, 1, 1, 0, 1, 0, 7, 0, 0, 7, 7};
        for (int i = 0; i < whats.length; i++) {
            DUE.is("26: told " + whats[i], x.told(whats[i]), due[i]);
        }
        x.runner(7, 1, 0, -50);
        x.runner(0, 0, 0, 50);
        DUE.is("26: B of h", x.told(47), -50);
        DUE.is("26: B of a", x.told(40), 50);
        Due.pad(x, ".".repeat(60));
        DUE.is("26: 60 signs", x.told(0), 60);
        for (int what : new int[] {-1, 5, 9, 18, 19, 28, 29, 38, 39, 48, 49, 50, 58, 59, 60}) {
            DUE.is("26: told " + what, x.told(what), OUTSIDE);
        }
    }
}
