/** Promises 18 to 26: seen, forget, lines, ask, cross, run, image, restore, told. */
public final class LinesTest {
    private static final Due DUE = new Due("LinesTest");
    private static final long UNKNOWN = KineticCup.LOST - 1;
    private static final long OUTSIDE = KineticCup.LOST - 2;
    private static final long STATE = KineticCup.LOST - 3;

    public static void main(String[] args) {
        seenSights();
        linesThatFit();
        askNext();
        crossings();
        runsByDraws();
        runIsAsItsText();
        runDoesNothingInFact();
        runEventsAndStaleOnes();
        images();
        imageKeepsSights();
        imageKeepsStaleOnes();
        toldNumbers();
        DUE.end();
    }

    private static void seenSights() {
        KineticCup x = new KineticCup();
        DUE.is("18: t 10", x.seen(10, 0, true), -2);
        DUE.is("18: t -1", x.seen(-1, 0, true), -2);
        DUE.is("18: v 100", x.seen(0, 100, false), -2);
        DUE.is("18: v -100", x.seen(0, -100, false), -2);
        DUE.is("18: v least", x.seen(0, Integer.MIN_VALUE, false), -2);
        DUE.is("18: edges", x.seen(9, 99, false), 1);
        DUE.is("18: edges", x.seen(0, -99, true), 2);
        for (int i = 3; i <= 8; i++) {
            DUE.is("18: sight " + i, x.seen(0, 0, true), i);
        }
        DUE.is("18: full", x.seen(0, 0, true), -4);
        DUE.is("18: OUTSIDE is ahead of FULL", x.seen(10, 0, true), -2);
        DUE.is("26: eight", x.told(4), 8);
        DUE.is("19: eight go", x.forget(), 8);
        DUE.is("19: none goes", x.forget(), 0);
        DUE.is("26: none", x.told(4), 0);
        DUE.is("20: all fit", x.lines(-1), 589);
        DUE.is("18: anew", x.seen(0, 0, true), 1);
    }

    private static void linesThatFit() {
        KineticCup x = new KineticCup();
        for (int i = 0; i < 589; i += 7) {
            DUE.is("20: line " + i, x.lines(i), 100 * (i / 19) + i % 19 - 9 + 50);
        }
        DUE.is("20: last", x.lines(588), 3059);
        DUE.is("20: behind it", x.lines(589), -6);
        DUE.is("20: -2", x.lines(-2), -6);
        DUE.is("20: most", x.lines(Integer.MAX_VALUE), -6);
        DUE.is("20: least", x.lines(Integer.MIN_VALUE), -6);
        x.seen(0, 5, true);
        x.seen(0, 7, false);
        DUE.is("20: A 5 or 6", x.lines(-1), 38);
        DUE.is("20: first", x.lines(0), 541);
        x.seen(9, 5 + 9 * 8, true);
        DUE.is("20: B 8 or 9", x.lines(-1), 4);
        DUE.is("20: 5, 8", x.lines(0), 558);
        DUE.is("20: 5, 9", x.lines(1), 559);
        DUE.is("20: 6, 8", x.lines(2), 658);
        DUE.is("20: 6, 9", x.lines(3), 659);
        DUE.is("20: behind them", x.lines(4), -6);
        x.seen(1, 14, true);
        DUE.is("20: without 5, 8", x.lines(-1), 3);
        x.seen(2, 22, false);
        DUE.is("20: at 2 less than 22", x.lines(-1), 0);
        DUE.is("20: none", x.lines(0), -6);
    }

    private static void askNext() {
        KineticCup x = new KineticCup();
        DUE.is("21: what 2", x.ask(2), -2);
        DUE.is("21: what -1", x.ask(-1), -2);
        DUE.is("21: of all", x.ask(0), 8515);
        DUE.is("21: of all", x.ask(1), 296);
        x.seen(0, 1, false);
        DUE.is("20: A is 0", x.lines(-1), 19);
        DUE.is("21: at 1, 0 or more: ten of B 0 to 9", x.ask(0), 1500);
        DUE.is("21: ten", x.ask(1), 10);
        x.seen(1, 9, true);
        DUE.is("21: one", x.lines(-1), 1);
        DUE.is("21: the least", x.ask(0), 401);
        DUE.is("21: it is left", x.ask(1), 1);
        x.seen(0, 1, true);
        DUE.is("21: nothing fits", x.ask(0), -6);
        DUE.is("21: nothing fits", x.ask(1), -6);
        DUE.is("21: OUTSIDE is ahead", x.ask(2), -2);
        x.forget();
        x.seen(0, 30, true);
        x.seen(9, 99, true);
        DUE.is("21: A is 30, B 8, 9", x.lines(-1), 2);
        DUE.is("21: 39 at 1", x.ask(0), 1539);
        DUE.is("21: one is left", x.ask(1), 1);
        x.forget();
        x.seen(7, -1, true);
        x.seen(4, 12, false);
        DUE.is("21: 46 fit", x.lines(-1), 46);
        DUE.is("21: 4 at 9", x.ask(0), 9504);
        DUE.is("21: half is left", x.ask(1), 23);
    }

    private static void crossIs(KineticCup x, int one, int other, long upper, long lower) {
        DUE.is("22: cross(" + one + ", " + other + ", 0)", x.cross(one, other, 0), upper);
        DUE.is("22: cross(" + one + ", " + other + ", 1)", x.cross(one, other, 1), lower);
    }

    private static void crossings() {
        KineticCup x = new KineticCup();
        crossIs(x, 0, 1, STATE, STATE);
        crossIs(x, 8, 1, UNKNOWN, UNKNOWN);
        crossIs(x, 1, -1, UNKNOWN, UNKNOWN);
        crossIs(x, 8, 8, UNKNOWN, UNKNOWN);
        crossIs(x, 1, 1, OUTSIDE, OUTSIDE);
        DUE.is("22: part 2", x.cross(0, 1, 2), OUTSIDE);
        DUE.is("22: part -1", x.cross(0, 1, -1), OUTSIDE);
        DUE.is("22: UNKNOWN is ahead of OUTSIDE", x.cross(8, 1, 2), UNKNOWN);
        x.runner(4, 1, 40, 6);
        crossIs(x, 4, 7, 5, 1);
        crossIs(x, 7, 4, 5, 1);
        crossIs(x, 4, 0, -20, 3);
        crossIs(x, 0, 4, -20, 3);
        x.runner(5, 1, 40, -3);
        crossIs(x, 4, 5, 0, 1);
        x.runner(6, 1, 60, 1);
        crossIs(x, 6, 7, 10, 1);
        crossIs(x, 7, 6, 10, 1);
        Due.does(x, "e!f!");
        crossIs(x, 4, 0, -20, 3);
        DUE.is("22: of those that are out as well", x.cross(4, 5, 1), 1);
    }

    private static void runsByDraws() {
        KineticCup x = new KineticCup();
        int[][] wrong = {{-1, 1, 0}, {10000, 1, 0}, {0, 0, 0}, {0, 100, 0}, {0, 1, -1}, {0, 1, 3},
            {0, -5, 0}, {Integer.MAX_VALUE, Integer.MAX_VALUE, 0}};
        for (int[] w : wrong) {
            DUE.is("23: run(" + w[0] + ", " + w[1] + ", " + w[2] + ")", x.run(w[0], w[1], w[2]), -2);
        }
        DUE.is("23: edges", x.run(9999, 99, 0), 6);
        DUE.is("23: edges", x.run(9999, 99, 1), 2);
        DUE.is("23: edges", x.run(9999, 99, 2), 0);
        DUE.is("23: edges", x.run(0, 99, 0), 7);
        // 7 draws 599: of h, 74 left over by 8 is 2: it goes out.
        DUE.is("23: h is out", x.run(7, 1, 0), 6);
        // 0 draws 74: c, 1: a steady one can not be slower.
        DUE.is("23: what can not be", x.run(0, 1, 0), 7);
        DUE.is("23: as in the runs", x.run(77, 99, 0), 4);
        DUE.is("23: as in the runs", x.run(77, 99, 1), 1);
        Due.does(x, "a!b!c!d!e!f!g!h!");
        DUE.is("23: none leads", x.run(0, 1, 0), -6);
        DUE.is("23: no event", x.run(0, 1, 1), 0);
    }

    /** What is drawn is written as a text here, with what can not be left out. */
    private static void runIsAsItsText() {
        for (int seed = 0; seed < 10000; seed += 97) {
            KineticCup x = new KineticCup();
            x.runner(0, 0, 0, 9);
            x.runner(5, 1, 50, 3);
            x.runner(6, 1, 60, 2);
            int m = 1 + seed % 60;
            int leads = x.run(seed, m, 0);
            int events = x.run(seed, m, 1);
            int stale = x.run(seed, m, 2);
            int eventsOfTexts = 0;
            int staleOfTexts = 0;
            int z = seed;
            for (int i = 0; i < m; i++) {
                z = (75 * z + 74) % 65537;
                char letter = (char) ('a' + z % 8);
                String[] acts = {"+", "-", "!", "#", "%" + (char) ('a' + z / 64 % 8)};
                int draw = z / 8 % 8;
                Due.pad(x, draw < 5 ? letter + acts[draw] : ".");
                if (x.judge(0) == -6) {
                    eventsOfTexts += x.then(4);
                    staleOfTexts += x.then(3);
                    x.done();
                }
            }
            DUE.is("23: leads, seed " + seed, leads, x.told(2));
            DUE.is("23: events, seed " + seed, events, eventsOfTexts);
            DUE.is("23: stale, seed " + seed, stale, staleOfTexts);
        }
    }

    private static void runDoesNothingInFact() {
        KineticCup x = new KineticCup();
        Due.pad(x, "e+");
        x.runner(6, 1, 60, 4);
        x.run(77, 99, 1);
        DUE.is("23: the second", x.told(1), 0);
        DUE.is("23: the pad", x.told(0), 2);
        DUE.is("23: the queue", x.told(3), 1);
        for (int r = 0; r < 8; r++) {
            DUE.is("23: in", x.told(10 + r), 1);
            DUE.is("23: place", x.told(30 + r), r);
            DUE.is("23: B", x.told(40 + r), r == 6 ? 4 : 0);
        }
    }

    /** Of all seeds some bring events and some stale ones; each is at most what seconds allow. */
    private static void runEventsAndStaleOnes() {
        KineticCup x = new KineticCup();
        x.runner(5, 1, 50, 3);
        x.runner(6, 1, 60, 2);
        x.runner(0, 0, 0, 9);
        int events = 0;
        int stale = 0;
        for (int seed = 0; seed < 80; seed++) {
            events += x.run(seed, 60, 1);
            stale += x.run(seed, 60, 2);
        }
        DUE.isTrue("23: events", events > 20);
        DUE.isTrue("23: stale ones", stale > 0);
    }

    private static void images() {
        KineticCup x = new KineticCup();
        DUE.is("24: 2", x.image(2), -2);
        DUE.is("24: -1", x.image(-1), -2);
        DUE.is("25: 2", x.restore(2), -2);
        DUE.is("25: -1", x.restore(-1), -2);
        DUE.is("25: not kept", x.restore(0), -3);
        x.runner(6, 1, 60, 4);
        x.seen(0, 30, true);
        DUE.is("24: kept", x.image(0), 1);
        DUE.is("25: the other one is not", x.restore(1), -3);
        Due.does(x, "...h!e%fe+e!");
        x.forget();
        x.runner(4, 0, 7, 7);
        DUE.is("24: kept", x.image(1), 1);
        Due.pad(x, "ab");
        DUE.is("25: restored", x.restore(0), 1);
        DUE.is("25: the pad stays", x.told(0), 2);
        DUE.is("25: second", x.told(1), 0);
        DUE.is("25: leads", x.told(2), 7);
        DUE.is("25: queue", x.told(3), 1);
        DUE.is("25: sights", x.told(4), 1);
        DUE.is("25: the same sights", x.lines(-1), 19);
        DUE.is("25: in", x.told(17), 1);
        DUE.is("25: kind", x.told(24), 1);
        DUE.is("25: place", x.told(34), 4);
        DUE.is("25: B", x.told(44), 0);
        DUE.is("25: A", x.value(4, 0, 1, 0), 40);
        DUE.is("25: next", x.next(0), 5);
        x.runner(6, 1, 0, 0);
        DUE.is("25: restored again", x.restore(0), 1);
        DUE.is("25: next", x.next(0), 5);
        DUE.is("25: the other one", x.restore(1), 1);
        DUE.is("25: second", x.told(1), 3);
        DUE.is("25: kind", x.told(24), 0);
        DUE.is("25: place", x.told(34), 5);
        DUE.is("25: out", x.told(17), 0);
        DUE.is("25: sights", x.told(4), 0);
        DUE.is("25: leads", x.told(2), 6);
        x.seen(3, 3, true);
        x.seen(3, 3, false);
        DUE.is("24: kept anew", x.image(0), 1);
        x.forget();
        x.restore(0);
        DUE.is("25: sights", x.told(4), 2);
    }

    /** Other sights come where those that are kept were. */
    private static void imageKeepsSights() {
        KineticCup x = new KineticCup();
        x.seen(0, 5, true);
        x.seen(0, 7, false);
        x.seen(9, 77, true);
        x.image(0);
        int[] kept = {x.lines(-1), x.lines(0), x.ask(0), x.ask(1)};
        DUE.is("20: four", kept[0], 4);
        x.forget();
        x.seen(3, -2, false);
        x.seen(4, -9, true);
        x.seen(5, 1, false);
        x.seen(5, 2, false);
        x.image(1);
        DUE.isTrue("20: others fit", x.lines(0) != kept[1]);
        int other = x.lines(0);
        x.restore(0);
        DUE.is("25: three", x.told(4), 3);
        DUE.is("25: lines", x.lines(-1), kept[0]);
        DUE.is("25: lines", x.lines(0), kept[1]);
        DUE.is("25: ask", x.ask(0), kept[2]);
        DUE.is("25: ask", x.ask(1), kept[3]);
        x.restore(1);
        DUE.is("25: four", x.told(4), 4);
        DUE.is("25: lines", x.lines(0), other);
    }

    private static void imageKeepsStaleOnes() {
        KineticCup x = new KineticCup();
        x.runner(5, 1, 50, 1);
        x.runner(6, 1, 60, 1);
        Due.does(x, ".".repeat(10));
        x.image(1);
        x.runner(0, 0, 0, 0);
        DUE.is("25: none", x.told(3), 0);
        x.restore(1);
        DUE.is("25: the stale one lies there", x.told(3), 1);
        Due.pad(x, ".".repeat(10));
        DUE.is("25: and is stale", x.then(3), 1);
        DUE.is("25: and is no event", x.then(4), 0);
    }

    private static void toldNumbers() {
        KineticCup x = new KineticCup();
        x.runner(6, 1, 60, 4);
        x.seen(0, 0, true);
        Due.does(x, ".g%fh!");
        Due.pad(x, "...");
        int[] all = {3, 1, 6, 0, 1};
        for (int i = 0; i < 5; i++) {
            DUE.is("26: told(" + i + ")", x.told(i), all[i]);
        }
        int[] in = {1, 1, 1, 1, 1, 1, 1, 0};
        int[] kind = {0, 0, 0, 0, 1, 1, 1, 1};
        int[] place = {0, 1, 2, 3, 4, 6, 5, 7};
        int[] slope = {0, 0, 0, 0, 0, 0, 4, 0};
        for (int r = 0; r < 8; r++) {
            DUE.is("26: in " + r, x.told(10 + r), in[r]);
            DUE.is("26: kind " + r, x.told(20 + r), kind[r]);
            DUE.is("26: place " + r, x.told(30 + r), place[r]);
            DUE.is("26: slope " + r, x.told(40 + r), slope[r]);
        }
        int[] winners = {6, 3, 6, 1, 3, 6, 5};
        for (int m = 1; m <= 7; m++) {
            DUE.is("26: winner " + m, x.told(50 + m), winners[m - 1]);
        }
        int[] wrong = {-1, 5, 9, 18, 19, 28, 29, 38, 39, 48, 49, 50, 58, 59, 60, 61, 110, -10, -13,
            Integer.MIN_VALUE, Integer.MAX_VALUE};
        for (int what : wrong) {
            DUE.is("26: told(" + what + ")", x.told(what), -2);
        }
    }
}
