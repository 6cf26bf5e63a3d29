/** Promises 6 to 10: judge, done, behind, winner, then. */
public final class DaysTest {
    private static final Due DUE = new Due("DaysTest");
    private static final int NONE = -6;
    private static final int NO = -5;

    public static void main(String[] args) {
        judgeReasons();
        judgeLanes();
        judgeLastSecond();
        judgeRefusals();
        doneDays();
        behindDays();
        behindRefusals();
        winnersBehind();
        severalAtOnce();
        staleAtOnce();
        staleLater();
        dueWithinASecond();
        upToTheTop();
        thenCountsTheTextAlone();
        DUE.end();
    }

    private static void judged(KineticCup x, String text, int act, int why) {
        Due.pad(x, text);
        DUE.is("6: judge(0) of " + text, x.judge(0), act);
        DUE.is("6: judge(1) of " + text, x.judge(1), why);
        DUE.is("7: done() of " + text, act == NONE ? NO : x.done(), NO);
    }

    private static void judgeReasons() {
        KineticCup x = new KineticCup();
        judged(x, "", NONE, NONE);
        judged(x, "e+e-e!e#e%f.", NONE, NONE);
        judged(x, "e!e+", 1, 1);
        judged(x, ".e!e-", 2, 1);
        judged(x, "e!.e!", 2, 1);
        judged(x, "a!a+", 1, 1);
        judged(x, "a+", 0, 2);
        judged(x, "..d-", 2, 2);
        judged(x, "a#", 0, 4);
        judged(x, "a!a#a#", 2, 4);
        judged(x, "e!e#e+e!e#", NONE, NONE);
        judged(x, "b%b", 0, 5);
        judged(x, "e%e", 0, 5);
        judged(x, "h+b%bi".substring(0, 5), 1, 5);
        judged(x, "a!b!a%b", NONE, NONE);
        x.runner(4, 1, 0, 50);
        judged(x, "e+", 0, 3);
        judged(x, "e-e+e+", 2, 3);
        x.runner(4, 1, 0, -50);
        judged(x, "e-", 0, 3);
        judged(x, "e+e-e-", 2, 3);
        x.runner(4, 1, 0, 49);
        judged(x, "e+e+", 1, 3);
        x.runner(0, 0, 0, 50);
        judged(x, "a+", 0, 2);
        x.runner(4, 0, 0, 0);
        judged(x, "e+", 0, 2);
        DUE.is("6: nothing is changed", x.told(1), 0);
    }

    private static void judgeLanes() {
        KineticCup x = new KineticCup();
        judged(x, "a%e", 0, 6);
        judged(x, "e%a", 0, 6);
        judged(x, "d%h", 0, 6);
        judged(x, "a%d", NONE, NONE);
        judged(x, "e%h", NONE, NONE);
        judged(x, "e!a!a%e", 2, 6);
        x.runner(4, 0, 40, 0);
        judged(x, "a%e", NONE, NONE);
        judged(x, "e%a", NONE, NONE);
        judged(x, "e%aa%f", NONE, NONE);
        judged(x, "e%ae%f", 1, 6);
        judged(x, "e%af%e", 1, 6);
    }

    private static void judgeLastSecond() {
        KineticCup x = new KineticCup();
        DUE.is("7: 60 seconds", Due.does(x, ".".repeat(60)), 60);
        DUE.is("7: 38 seconds", Due.does(x, ".".repeat(38)), 38);
        DUE.is("26: the second", x.told(1), 98);
        judged(x, ".", NONE, NONE);
        judged(x, "..", 1, 7);
        DUE.is("7: the last second", Due.does(x, "."), 1);
        judged(x, ".", 0, 7);
        judged(x, "e+.", 1, 7);
        DUE.is("26: the second", x.told(1), 99);
        DUE.is("7: a push at last", Due.does(x, "e+"), 1);
        DUE.is("15: is where it was", x.value(4, 99, 1, 0), 40);
        DUE.is("15: and rises", x.value(4, 100, 1, 0), 41);
    }

    private static void judgeRefusals() {
        KineticCup x = new KineticCup();
        DUE.is("6: what 2", x.judge(2), -2);
        DUE.is("6: what -1", x.judge(-1), -2);
        Due.pad(x, "a");
        DUE.is("6: a fault", x.judge(0), NO);
        DUE.is("6: a fault", x.judge(1), NO);
        DUE.is("6: OUTSIDE is ahead of NO", x.judge(2), -2);
        Due.pad(x, "a+x");
        DUE.is("6: a fault behind what can not be", x.judge(0), NO);
    }

    private static void doneDays() {
        KineticCup x = new KineticCup();
        DUE.is("7: nothing", x.done(), 0);
        Due.pad(x, "a");
        DUE.is("7: a fault", x.done(), NO);
        DUE.is("7: the pad stays", x.told(0), 1);
        Due.pad(x, "h!a+");
        DUE.is("7: one that can not be", x.done(), NO);
        DUE.is("7: nothing is changed", x.told(17), 1);
        DUE.is("7: the pad stays", x.told(0), 4);
        DUE.is("7: acts", Due.does(x, "e+..h!a%b"), 5);
        DUE.is("7: the pad is empty", x.told(0), 0);
        DUE.is("7: second", x.told(1), 2);
        DUE.is("7: B", x.told(44), 1);
        DUE.is("7: out", x.told(17), 0);
        DUE.is("7: place", x.told(30), 1);
        DUE.is("7: place", x.told(31), 0);
        DUE.is("7: leads", x.told(2), 6);
        DUE.is("7: in again", Due.does(x, "h#"), 1);
        DUE.is("7: leads", x.told(2), 7);
        DUE.is("7: its line is as it was", x.value(7, 5, 1, 0), 70);
    }

    private static void behind(KineticCup x, int runner, int in, int place, int a, int b) {
        int[] want = {in, place, a, b};
        for (int what = 0; what < 4; what++) {
            DUE.is("8: behind(" + runner + ", " + what + ")", x.behind(runner, what), want[what]);
        }
    }

    private static void behindDays() {
        KineticCup x = new KineticCup();
        Due.pad(x, "...e+e+.e-f-g%hh!");
        behind(x, 4, 1, 4, 40 - 3 - 3 + 4, 1);
        behind(x, 5, 1, 5, 54, -1);
        behind(x, 6, 1, 7, 60, 0);
        behind(x, 7, 0, 6, 70, 0);
        behind(x, 0, 1, 0, 0, 0);
        DUE.is("8: nothing is done", x.told(1), 0);
        DUE.is("8: nothing is done", x.told(44), 0);
        DUE.is("8: the pad stays", x.told(0), 17);
        x.done();
        behind(x, 4, 1, 4, 38, 1);
        behind(x, 7, 0, 6, 70, 0);
    }

    private static void behindRefusals() {
        KineticCup x = new KineticCup();
        DUE.is("8: runner 8", x.behind(8, 0), -1);
        DUE.is("8: runner -1", x.behind(-1, 9), -1);
        DUE.is("8: what 4", x.behind(0, 4), -2);
        DUE.is("8: what -1", x.behind(0, -1), -2);
        DUE.is("9: match 0", x.winner(0), -1);
        DUE.is("9: match 8", x.winner(8), -1);
        DUE.is("10: what 7", x.then(7), -2);
        DUE.is("10: what -1", x.then(-1), -2);
        String[] texts = {"a", "a+", "h!h!", ".x"};
        for (String text : texts) {
            Due.pad(x, text);
            DUE.is("8: NO", x.behind(0, 0), NO);
            DUE.is("8: UNKNOWN is ahead of NO", x.behind(8, 0), -1);
            DUE.is("8: OUTSIDE is ahead of NO", x.behind(0, 4), -2);
            DUE.is("9: NO", x.winner(1), NO);
            DUE.is("9: UNKNOWN is ahead of NO", x.winner(8), -1);
            DUE.is("10: NO", x.then(0), NO);
            DUE.is("10: OUTSIDE is ahead of NO", x.then(7), -2);
        }
    }

    private static void winners(KineticCup x, int... want) {
        for (int m = 1; m <= 7; m++) {
            DUE.is("9: winner(" + m + ")", x.winner(m), want[m - 1]);
        }
    }

    private static void then(KineticCup x, int... want) {
        for (int what = 0; what < 7; what++) {
            DUE.is("10: then(" + what + ")", x.then(what), want[what]);
        }
    }

    private static void winnersBehind() {
        KineticCup x = new KineticCup();
        winners(x, 7, 3, 7, 1, 3, 5, 7);
        Due.pad(x, "h!f!");
        winners(x, 6, 3, 6, 1, 3, 4, 6);
        Due.pad(x, "h!g!a%c");
        winners(x, 5, 3, 5, 2, 3, 5, NONE);
        Due.pad(x, "a!b!c!d!");
        winners(x, 7, NONE, 7, NONE, NONE, 5, 7);
        Due.pad(x, "a!b!c!d!e!f!g!h!");
        winners(x, NONE, NONE, NONE, NONE, NONE, NONE, NONE);
        then(x, 0, NONE, 0, 0, 0, NONE, NONE);
        x.done();
        DUE.is("26: none leads", x.told(2), NONE);
        DUE.is("26: none wins", x.told(57), NONE);
        Due.pad(x, "..c#");
        winners(x, 2, 2, NONE, NONE, 2, NONE, NONE);
        then(x, 2, 2, 0, 0, 0, NONE, NONE);
    }

    /** At 10 e passes f at match 6, and g passes h at match 7, which is looked at first. */
    private static void severalAtOnce() {
        KineticCup x = new KineticCup();
        x.runner(4, 1, 40, 1);
        x.runner(6, 1, 60, 1);
        DUE.is("12: next", x.next(0), 10);
        DUE.is("13: the greatest", x.where(), 7);
        Due.pad(x, ".".repeat(9));
        then(x, 9, 7, 0, 0, 0, NONE, NONE);
        Due.pad(x, ".".repeat(10));
        then(x, 10, 6, 2, 0, 2, 9, 7);
        winners(x, 6, 3, 6, 1, 3, 4, 6);
    }

    /** At 10 f, g, h are as great; match 7 is looked at first, so that of match 3 is stale. */
    private static void staleAtOnce() {
        KineticCup x = new KineticCup();
        x.runner(5, 1, 50, 2);
        x.runner(6, 1, 60, 1);
        DUE.is("26: two in the queue", x.told(3), 2);
        DUE.is("13: the greatest", x.where(), 7);
        Due.pad(x, ".".repeat(10));
        then(x, 10, 5, 2, 1, 1, 9, 7);
        winners(x, 5, 3, 5, 1, 3, 5, 6);
        x.done();
        DUE.is("26: none is left", x.told(3), 0);
    }

    /** At 10 g passes h, and f, as steep as g, never will: what was due at 20 is stale. */
    private static void staleLater() {
        KineticCup x = new KineticCup();
        x.runner(5, 1, 50, 1);
        x.runner(6, 1, 60, 1);
        Due.pad(x, ".".repeat(19));
        then(x, 19, 6, 1, 0, 1, 9, 7);
        Due.pad(x, ".".repeat(20));
        then(x, 20, 6, 2, 1, 1, 9, 7);
        Due.does(x, ".".repeat(15));
        DUE.is("26: the stale one lies there", x.told(3), 1);
        Due.pad(x, ".....");
        then(x, 20, 6, 1, 1, 0, NONE, NONE);
        Due.pad(x, "a!.....");
        then(x, 20, 6, 0, 0, 0, NONE, NONE);
    }

    private static void dueWithinASecond() {
        KineticCup x = new KineticCup();
        x.runner(6, 1, 60, 4);
        Due.pad(x, "..");
        then(x, 2, 7, 0, 0, 0, NONE, NONE);
        Due.pad(x, "...");
        then(x, 3, 6, 1, 0, 1, 2, 7);
        Due.pad(x, ".h-..");
        then(x, 3, 6, 1, 0, 1, 3, 7);
        Due.pad(x, "h+h+h+...");
        then(x, 3, 7, 0, 0, 0, NONE, NONE);
    }

    /** b passes a, then d, then h: matches 4, 2 and 1. */
    private static void upToTheTop() {
        KineticCup x = new KineticCup();
        x.runner(0, 0, 10, 0);
        x.runner(1, 0, 0, 10);
        DUE.is("26: match 4 alone", x.told(3), 1);
        Due.pad(x, ".");
        then(x, 1, 7, 1, 0, 1, 0, 4);
        winners(x, 7, 3, 7, 1, 3, 5, 7);
        Due.pad(x, "...");
        then(x, 3, 7, 2, 0, 2, 0, 4);
        winners(x, 7, 1, 7, 1, 3, 5, 7);
        Due.pad(x, ".......");
        then(x, 7, 1, 3, 0, 3, 0, 4);
        winners(x, 1, 1, 7, 1, 3, 5, 7);
        Due.does(x, ".");
        DUE.is("26: that of match 2 was made", x.told(3), 1);
        DUE.is("13: match 2", x.where(), 2);
        DUE.is("12: at 3", x.next(0), 3);
    }

    private static void thenCountsTheTextAlone() {
        KineticCup x = new KineticCup();
        x.runner(6, 1, 60, 4);
        x.runner(0, 0, 0, 1);
        Due.does(x, "...");
        then(x, 3, 6, 0, 0, 0, NONE, NONE);
        Due.pad(x, ".......");
        then(x, 10, 6, 1, 0, 1, 6, 4);
    }
}
