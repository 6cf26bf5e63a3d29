/** The boundary cases of days: the rest of "1 RUNNERS", "2 JUDGED", and promises 6 to 10. */
public final class DaysEdgesTest {
    private static final Due DUE = new Due("DaysEdgesTest");
    private static final int NONE = -6;
    private static final int NO = -5;

    public static void main(String[] args) {
        reason1ItIsOut();
        reason2ItIsSteady();
        reason3ItsSlopeIsAtTheEnd();
        reason4ItIsIn();
        reason5BothAreOne();
        reason6TheLaneDoesNotTake();
        reason7SecondIs99();
        theLeastReason();
        theFirstActFrom0On();
        pushesGoOnFromWhereItWas();
        anyActButASecondBeginsAnew();
        aSecondKeepsTheQueue();
        upToTheNextSecondAndByIt();
        theLastSecondTakesWhatIsDueByIt();
        whatIsDueFirstIsTakenFirst();
        ofSeveralTheGreatestMatch();
        staleThoughNoneCanBeMade();
        staleStillWhenMoreAreMadeBehindDone();
        theMatchAboveIsLookedAtOnlyIfTheWinnerIsAnother();
        upToTheLastOne();
        doneOfAnEmptyPad();
        doneOfAFullPad();
        doneRefusedLeavesThePad();
        behindAnEmptyPad();
        behindIsNotDone();
        thenOfNothing();
        thenAtTheFirstAndTheLastAct();
        thenCountsOneTextAlone();
        DUE.end();
    }

    private static KineticCup with(int runner, int kind, int a, int b) {
        KineticCup x = new KineticCup();
        x.runner(runner, kind, a, b);
        return x;
    }

    private static void can(KineticCup x, String text) {
        judged(x, text, NONE, NONE);
    }

    private static void judged(KineticCup x, String text, int act, int why) {
        Due.pad(x, text);
        DUE.is("6: fault of " + text, x.fault(), NONE);
        DUE.is("6: which act of " + text, x.judge(0), act);
        DUE.is("6: why, of " + text, x.judge(1), why);
    }

    private static void reason1ItIsOut() {
        KineticCup x = new KineticCup();
        for (String act : new String[] {"+", "-", "!"}) {
            judged(x, "h!h" + act, 1, 1);
            can(x, "h!h#h" + act);
            judged(x, "a!a" + act, 1, 1);
        }
        can(x, "h!h%e");
        can(x, "h!e%h");
        can(x, "h!h#");
        Due.does(x, "h!");
        judged(x, "h!", 0, 1);
        judged(x, "h+", 0, 1);
        judged(x, "h-", 0, 1);
        can(x, "g+");
    }

    private static void reason2ItIsSteady() {
        KineticCup x = with(7, 0, 70, 0);
        for (char letter : new char[] {'a', 'b', 'c', 'd', 'h'}) {
            judged(x, letter + "+", 0, 2);
            judged(x, letter + "-", 0, 2);
            can(x, letter + "!" + letter + "#");
        }
        can(x, "e+f-g+");
        x.runner(7, 1, 70, 0);
        can(x, "h+h-");
    }

    private static void reason3ItsSlopeIsAtTheEnd() {
        judged(with(4, 1, 0, 50), "e+", 0, 3);
        can(with(4, 1, 0, 50), "e-");
        judged(with(4, 1, 0, -50), "e-", 0, 3);
        can(with(4, 1, 0, -50), "e+");
        can(with(4, 1, 0, 49), "e+");
        judged(with(4, 1, 0, 49), "e+e+", 1, 3);
        can(with(4, 1, 0, -49), "e-");
        judged(with(4, 1, 0, -49), "e-e-", 1, 3);
        judged(with(4, 1, 0, 25), "e+".repeat(26), 25, 3);
        KineticCup x = with(4, 1, 0, 49);
        Due.does(x, "e+");
        DUE.is("26: 50", x.told(44), 50);
        judged(x, "e+", 0, 3);
        x = with(4, 1, 0, -49);
        Due.does(x, "e-");
        DUE.is("26: -50", x.told(44), -50);
        judged(x, "e-", 0, 3);
    }

    private static void reason4ItIsIn() {
        KineticCup x = new KineticCup();
        for (char letter = 'a'; letter <= 'h'; letter++) {
            judged(x, letter + "#", 0, 4);
            can(x, letter + "!" + letter + "#");
        }
        judged(x, "a!a#a#", 2, 4);
        Due.does(x, "c!");
        can(x, "c#");
        x.runner(2, 0, 20, 0);
        judged(x, "c#", 0, 4);
    }

    private static void reason5BothAreOne() {
        KineticCup x = new KineticCup();
        for (char letter = 'a'; letter <= 'h'; letter++) {
            judged(x, letter + "%" + letter, 0, 5);
        }
        judged(x, "h!h%h", 1, 5);
        can(x, "a%b");
    }

    private static void reason6TheLaneDoesNotTake() {
        KineticCup x = new KineticCup();
        for (char steady = 'a'; steady <= 'd'; steady++) {
            for (char free = 'e'; free <= 'h'; free++) {
                judged(x, steady + "%" + free, 0, 6);
                judged(x, free + "%" + steady, 0, 6);
            }
        }
        can(x, "a%bb%cc%d");
        can(x, "e%ff%gg%h");
        judged(x, "d!e!d%e", 2, 6);
        x.runner(4, 0, 40, 0);
        can(x, "d%e");
        can(x, "e%d");
        can(x, "e%de%d");
        judged(x, "d%ee%f", 1, 6);
        judged(x, "d%ef%e", 1, 6);
        can(x, "d%ed%f");
        can(x, "d%ee%a");
    }

    private static KineticCup atSecond(int second) {
        KineticCup x = new KineticCup();
        Due.does(x, ".".repeat(Math.min(second, 60)));
        Due.does(x, ".".repeat(Math.max(second - 60, 0)));
        return x;
    }

    private static void reason7SecondIs99() {
        KineticCup x = atSecond(98);
        DUE.is("26: 98", x.told(1), 98);
        can(x, ".");
        judged(x, "..", 1, 7);
        judged(x, "...", 1, 7);
        x = atSecond(99);
        DUE.is("26: 99", x.told(1), 99);
        judged(x, ".", 0, 7);
        can(x, "e+a!a#a%bh-");
        judged(x, "e+a!.", 2, 7);
        can(x, "");
        judged(atSecond(60), ".".repeat(60), 39, 7);
        can(atSecond(60), ".".repeat(39));
    }

    private static void theLeastReason() {
        judged(with(0, 0, 0, 50), "a!a+", 1, 1);
        judged(with(0, 0, 0, -50), "a!a-", 1, 1);
        judged(with(0, 0, 0, 50), "a+", 0, 2);
        judged(with(0, 0, 0, -50), "a-", 0, 2);
        judged(with(4, 1, 0, 50), "e!e+", 1, 1);
        judged(with(4, 1, 0, -50), "e!e-", 1, 1);
    }

    private static void theFirstActFrom0On() {
        KineticCup x = new KineticCup();
        judged(x, "a+h#", 0, 2);
        judged(x, "h#a+", 0, 4);
        judged(x, "a%b.h!h!a+", 3, 1);
        judged(x, "a%bc%de%fg%g", 3, 5);
        judged(x, ".".repeat(58) + "a+", 58, 2);
        judged(x, "a%b".repeat(19) + "h%h", 19, 5);
        can(x, "a%b".repeat(20));
        can(x, "");
    }

    /** A and B change so that the value at this second does not; at second 0 A stays. */
    private static void pushesGoOnFromWhereItWas() {
        KineticCup x = new KineticCup();
        Due.does(x, "e+");
        DUE.is("8: A at second 0", x.behind(4, 2), 40);
        DUE.is("8: B", x.behind(4, 3), 1);
        x = atSecond(99);
        Due.does(x, "e-");
        DUE.is("8: A at second 99", x.behind(4, 2), 40 + 99);
        DUE.is("15: where it was", x.value(4, 99, 1, 0), 40);
        DUE.is("15: on from there", x.value(4, 100, 1, 0), 39);
        Due.does(x, "e+e+");
        DUE.is("8: A", x.behind(4, 2), 40 - 99);
        x.runner(7, 1, 1000, 50);
        for (int i = 0; i < 3; i++) {
            Due.does(x, "h-".repeat(30));
        }
        Due.does(x, "h-".repeat(10));
        DUE.is("8: the greatest A", x.behind(7, 2), 10900);
        DUE.is("8: the least B", x.behind(7, 3), -50);
        DUE.is("15: where it was", x.value(7, 99, 1, 0), 5950);
    }

    /** After ten seconds one that is stale lies in the queue, due at 20. */
    private static KineticCup withAStaleOne() {
        KineticCup x = new KineticCup();
        x.runner(5, 1, 50, 1);
        x.runner(6, 1, 60, 1);
        Due.does(x, ".".repeat(10));
        return x;
    }

    private static void anyActButASecondBeginsAnew() {
        for (String act : new String[] {"e-e+", "e+e-", "a!", "a!a#", "a%b"}) {
            KineticCup x = withAStaleOne();
            DUE.is("26: it lies there", x.told(3), 1);
            Due.does(x, act);
            DUE.is("26: the queue is empty behind " + act, x.told(3), 0);
            Due.pad(x, ".".repeat(20));
            DUE.is("10: none is taken", x.then(2), 0);
        }
        KineticCup x = withAStaleOne();
        x.runner(0, 0, 0, 0);
        DUE.is("2: the queue is empty", x.told(3), 0);
        x = withAStaleOne();
        Due.pad(x, "a!..........");
        DUE.is("10: nor in the text", x.then(2), 0);
        Due.pad(x, ".........a!.");
        DUE.is("10: just ahead of it", x.then(2), 0);
        Due.pad(x, "..........a!");
        DUE.is("10: just behind it", x.then(2), 1);
        DUE.is("10: it was stale", x.then(3), 1);
    }

    private static void aSecondKeepsTheQueue() {
        KineticCup x = withAStaleOne();
        Due.does(x, ".........");
        DUE.is("26: at 19 it lies there", x.told(3), 1);
        Due.does(x, ".");
        DUE.is("26: at 20 it is taken", x.told(3), 0);
    }

    private static KineticCup passesAt(int gap) {
        KineticCup x = with(7, 1, 1000, -50);
        x.runner(6, 1, 1000 - gap, 50);
        return x;
    }

    private static void upToTheNextSecondAndByIt() {
        int[] gaps = {1, 99, 100, 101, 199, 200, 201};
        int[] seconds = {1, 1, 1, 2, 2, 2, 3};
        for (int i = 0; i < gaps.length; i++) {
            KineticCup x = passesAt(gaps[i]);
            Due.pad(x, ".".repeat(seconds[i] - 1));
            DUE.is("10: not yet, " + gaps[i] + "/100", x.then(2), 0);
            DUE.is("9: h, " + gaps[i] + "/100", x.winner(7), 7);
            Due.pad(x, ".".repeat(seconds[i]));
            DUE.is("10: taken, " + gaps[i] + "/100", x.then(2), 1);
            DUE.is("10: an event, " + gaps[i] + "/100", x.then(4), 1);
            DUE.is("10: in act", x.then(5), seconds[i] - 1);
            DUE.is("9: g, " + gaps[i] + "/100", x.winner(7), 6);
        }
        KineticCup x = passesAt(0);
        DUE.is("26: now already", x.told(57), 6);
        DUE.is("26: so none is due", x.told(3), 0);
    }

    /** g passes h at 99, or at 99 and a twentieth, which no second takes. */
    private static void theLastSecondTakesWhatIsDueByIt() {
        KineticCup x = atSecond(98);
        x.runner(6, 1, -1000, 50);
        x.runner(7, 1, 980, 30);
        DUE.is("12: 99", x.next(0), 99);
        DUE.is("12: 99", x.next(1), 1);
        Due.pad(x, ".");
        DUE.is("10: taken by 99", x.then(4), 1);
        x.runner(7, 1, 981, 30);
        DUE.is("12: 1981 by 20", x.next(0), 1981);
        DUE.is("12: 1981 by 20", x.next(1), 20);
        DUE.is("10: not by 99", x.then(2), 0);
        Due.does(x, ".");
        DUE.is("26: it lies there for ever", x.told(3), 1);
        DUE.is("12: and is next", x.next(0), 1981);
    }

    /** Match 4 at 5, match 7 at 10: not the greatest match, but the soonest one. */
    private static void whatIsDueFirstIsTakenFirst() {
        KineticCup x = with(6, 1, 60, 1);
        x.runner(0, 0, 5, 1);
        DUE.is("26: both", x.told(3), 2);
        Due.pad(x, "..........");
        DUE.is("10: events", x.then(4), 2);
        DUE.is("10: in act", x.then(5), 4);
        DUE.is("10: at match", x.then(6), 4);
        x.runner(0, 0, 4, 2);
        x.runner(6, 1, 60, 3);
        // Both within one second: 3 for match 4, 10/3 for match 7.
        Due.pad(x, "....");
        DUE.is("10: at match", x.then(6), 4);
        x.runner(6, 1, 60, 4);
        DUE.is("10: 5/2 ahead of 3", x.then(6), 7);
    }

    /** All of 4 to 7 at 10: each winner changes, those of 2, 3, 1 that wait are stale or anew. */
    private static void ofSeveralTheGreatestMatch() {
        for (int least = 4; least <= 7; least++) {
            KineticCup x = new KineticCup();
            for (int m = least; m <= 7; m++) {
                x.runner(2 * m - 8, 0, 10 * (2 * m - 8), 1);
            }
            Due.pad(x, "..........");
            DUE.is("10: the greatest", x.then(6), 7);
            DUE.is("10: all", x.then(4), 8 - least);
            DUE.is("13: the greatest", x.where(), 7);
        }
        for (int most = 4; most <= 7; most++) {
            KineticCup x = new KineticCup();
            for (int m = 4; m <= most; m++) {
                x.runner(2 * m - 8, 0, 10 * (2 * m - 8), 1);
            }
            Due.pad(x, "..........");
            DUE.is("10: the greatest", x.then(6), most);
            DUE.is("10: all", x.then(4), most - 3);
            DUE.is("13: the greatest", x.where(), most);
        }
        // c passes d, then both lanes: at 10 match 5 makes that of match 2 and of match 1 stale.
        KineticCup x = new KineticCup();
        for (int r = 0; r < 8; r++) {
            x.runner(r, 0, 0, 0);
        }
        x.runner(3, 0, 50, 0);
        x.runner(2, 0, 20, 3);
        x.runner(1, 0, 40, 1);
        x.runner(7, 0, 30, 2);
        DUE.is("26: of 5, 2 and 1", x.told(3), 3);
        Due.pad(x, "..........");
        DUE.is("10: taken", x.then(2), 3);
        DUE.is("10: stale", x.then(3), 2);
        DUE.is("10: one event", x.then(4), 1);
        DUE.is("10: at match 5", x.then(6), 5);
        DUE.is("9: c leads", x.winner(1), 2);
    }

    private static void staleThoughNoneCanBeMade() {
        KineticCup x = withAStaleOne();
        DUE.is("13: it is not next", x.where(), NONE);
        Due.pad(x, "..........");
        DUE.is("10: taken", x.then(2), 1);
        DUE.is("10: stale", x.then(3), 1);
        DUE.is("10: no event", x.then(4), 0);
        DUE.is("10: in no act", x.then(5), NONE);
        DUE.is("10: at no match", x.then(6), NONE);
        DUE.is("9: g stays", x.winner(3), 6);
    }

    /** e passes h at 10, so that of d and h, due at 25/2, is stale; d passes e at 20. */
    private static void staleStillWhenMoreAreMadeBehindDone() {
        for (int first = 0; first <= 12; first += 4) {
            KineticCup x = with(3, 0, 20, 4);
            x.runner(4, 0, 40, 3);
            Due.does(x, ".".repeat(first));
            x.image(0);
            x.restore(0);
            Due.pad(x, ".".repeat(31 - first));
            for (int i = 0; i < 4; i++) {
                DUE.is("10: stale, from " + first, x.then(3), 1);
                DUE.is("10: leads, from " + first, x.then(1), 3);
            }
            Due.does(x, ".".repeat(12 - first));
            DUE.is("26: both lie there", x.told(3), 2);
            Due.pad(x, ".");
            DUE.is("10: the stale one", x.then(3), 1);
            DUE.is("10: no event", x.then(4), 0);
            Due.does(x, "........");
            DUE.is("26: none is left", x.told(3), 0);
            DUE.is("26: d leads", x.told(2), 3);
        }
    }

    /** f wins match 3 all the while; g passes h below it, and b passes f above it. */
    private static void theMatchAboveIsLookedAtOnlyIfTheWinnerIsAnother() {
        KineticCup x = with(5, 1, 100, 0);
        x.runner(6, 1, 60, 1);
        x.runner(1, 0, 40, 3);
        DUE.is("26: of match 7 and match 1", x.told(3), 2);
        Due.does(x, "..........");
        DUE.is("26: of match 1, and anew of match 3", x.told(3), 2);
        Due.pad(x, "..........");
        DUE.is("10: that of match 1 is its own still", x.then(4), 1);
        DUE.is("10: at match 1", x.then(6), 1);
        DUE.is("10: none is stale", x.then(3), 0);
        DUE.is("9: b leads", x.winner(1), 1);
        DUE.is("9: f stays", x.winner(3), 5);
        // That of match 3 comes due at 40.
        Due.pad(x, ".".repeat(30));
        DUE.is("10: events", x.then(4), 2);
        DUE.is("9: g at last", x.winner(3), 6);
    }

    private static void upToTheLastOne() {
        KineticCup x = with(1, 0, 0, 50);
        x.runner(0, 0, 100, 0);
        DUE.is("9: a leads", x.winner(1), 0);
        DUE.is("26: of match 4 alone", x.told(3), 1);
        Due.pad(x, "..");
        DUE.is("10: one event", x.then(4), 1);
        DUE.is("10: at match 4", x.then(6), 4);
        DUE.is("9: match 4", x.winner(4), 1);
        DUE.is("9: match 2", x.winner(2), 1);
        DUE.is("9: match 1", x.winner(1), 1);
        DUE.is("10: leads", x.then(1), 1);
        DUE.is("9: match 3 is as it was", x.winner(3), 7);
    }

    private static void doneOfAnEmptyPad() {
        KineticCup x = withAStaleOne();
        x.wipe();
        DUE.is("7: no acts", x.done(), 0);
        DUE.is("7: nothing begins anew", x.told(3), 1);
        DUE.is("7: the second", x.told(1), 10);
        DUE.is("7: no acts again", x.done(), 0);
    }

    private static void doneOfAFullPad() {
        KineticCup x = new KineticCup();
        DUE.is("7: 60 acts", Due.does(x, ".".repeat(60)), 60);
        DUE.is("7: the pad is empty", x.told(0), 0);
        DUE.is("7: 30 acts", Due.does(x, "e+".repeat(30)), 30);
        DUE.is("7: 20 acts", Due.does(x, "a%b".repeat(20)), 20);
        DUE.is("7: the pad is empty", x.wipe(), 0);
    }

    private static void doneRefusedLeavesThePad() {
        KineticCup x = new KineticCup();
        Due.pad(x, "h!.h");
        DUE.is("7: more must come", x.done(), NO);
        DUE.is("7: the pad stays", x.told(0), 4);
        x.say('!');
        DUE.is("7: an act that can not be", x.done(), NO);
        DUE.is("7: the pad stays", x.told(0), 5);
        DUE.is("7: nothing is done", x.told(17), 1);
        DUE.is("7: nothing is done", x.told(1), 0);
        Due.pad(x, "h!.h#");
        DUE.is("7: done", x.done(), 3);
    }

    private static void behindAnEmptyPad() {
        KineticCup x = withAStaleOne();
        Due.does(x, "c!e%h");
        for (int r = 0; r < 8; r++) {
            DUE.is("8: in, as now", x.behind(r, 0), x.told(10 + r));
            DUE.is("8: place, as now", x.behind(r, 1), x.told(30 + r));
            DUE.is("8: A, as now", x.behind(r, 2), x.value(r, 0, 1, 0));
            DUE.is("8: B, as now", x.behind(r, 3), x.told(40 + r));
        }
        for (int m = 1; m <= 7; m++) {
            DUE.is("9: as now", x.winner(m), x.told(50 + m));
        }
        DUE.is("10: second", x.then(0), 10);
        DUE.is("10: leads", x.then(1), x.told(2));
    }

    private static void behindIsNotDone() {
        KineticCup x = new KineticCup();
        Due.pad(x, "h!.a%b");
        for (int i = 0; i < 2; i++) {
            DUE.is("8: out", x.behind(7, 0), 0);
            DUE.is("8: place", x.behind(0, 1), 1);
            DUE.is("9: winner", x.winner(1), 6);
            DUE.is("10: second", x.then(0), 1);
            DUE.is("6: it can be", x.judge(0), NONE);
        }
        DUE.is("26: in", x.told(17), 1);
        DUE.is("26: place", x.told(30), 0);
        DUE.is("26: leads", x.told(2), 7);
        DUE.is("26: second", x.told(1), 0);
        DUE.is("26: signs", x.told(0), 6);
    }

    private static void thenIs(KineticCup x, int... due) {
        for (int what = 0; what < 7; what++) {
            DUE.is("10: then(" + what + ")", x.then(what), due[what]);
        }
    }

    private static void thenOfNothing() {
        KineticCup x = new KineticCup();
        thenIs(x, 0, 7, 0, 0, 0, NONE, NONE);
        Due.does(x, "a!b!c!d!e!f!g!h!");
        thenIs(x, 0, NONE, 0, 0, 0, NONE, NONE);
        Due.pad(x, ".".repeat(60));
        thenIs(x, 60, NONE, 0, 0, 0, NONE, NONE);
        // A change that an act other than a second brings is no event.
        x = with(6, 1, 60, 1);
        Due.pad(x, "h!");
        thenIs(x, 0, 6, 0, 0, 0, NONE, NONE);
    }

    private static void thenAtTheFirstAndTheLastAct() {
        KineticCup x = with(6, 1, 60, 10);
        Due.pad(x, "." + "a%b".repeat(19));
        thenIs(x, 1, 6, 1, 0, 1, 0, 7);
        Due.pad(x, "a!" + "a#a!".repeat(14) + ".");
        thenIs(x, 1, 6, 1, 0, 1, 29, 7);
        x = with(6, 1, 10, 1);
        Due.pad(x, ".".repeat(60));
        thenIs(x, 60, 6, 1, 0, 1, 59, 7);
        x.runner(6, 1, 9, 1);
        thenIs(x, 60, 7, 0, 0, 0, NONE, NONE);
    }

    private static void thenCountsOneTextAlone() {
        KineticCup x = with(6, 1, 60, 10);
        Due.pad(x, ".");
        thenIs(x, 1, 6, 1, 0, 1, 0, 7);
        thenIs(x, 1, 6, 1, 0, 1, 0, 7);
        x.run(7, 99, 1);
        thenIs(x, 1, 6, 1, 0, 1, 0, 7);
        x.done();
        thenIs(x, 1, 6, 0, 0, 0, NONE, NONE);
    }
}
