/** The boundary cases of "1 RUNNERS" and of promises 1 to 5, a method for each sentence. */
public final class RunnersEdgesTest {
    private static final Due DUE = new Due("RunnersEdgesTest");
    private static final int NONE = -6;
    private static final int STATE = -3;
    private static final long NO_NEXT = KineticCup.LOST - 3;

    public static void main(String[] args) {
        anObjectHas512Calls();
        allAreInAndNoneMoves();
        runnerTakesTheBounds();
        runnerTellsWhatItWas();
        aLaneTakes();
        aheadIsWhoIsGreater();
        aheadIfAsGreatIsTheSteeper();
        aheadIfAsSteepIsTheLess();
        whoIsOutIsNotAhead();
        whoMeetsWhere();
        ofOneAloneThatOneOfNoneNone();
        aCertificateNeedsTwo();
        aCertificateNeedsThatTheOtherEverIsAhead();
        aCertificateIsDueWhenTheOtherFirstIsAhead();
        thePadHas60Signs();
        signsAre33To126();
        wipeOfAnEmptyPad();
        firstSigns();
        secondSigns();
        thirdSigns();
        moreMustCome();
        signsThatWentDoNotCount();
        DUE.end();
    }

    private static void anObjectHas512Calls() {
        KineticCup x = new KineticCup();
        for (int i = 0; i < 102; i++) {
            x.image(i % 2);
            x.runner(6, 1, 60, i % 50);
            x.run(i, 99, 1);
            x.say('.');
            x.done();
        }
        DUE.is("call 511", x.told(1), 99);
        DUE.is("call 512", x.restore(0), 1);
        x = new KineticCup();
        for (int i = 0; i < 511; i++) {
            x.say('.');
        }
        DUE.is("call 512", x.wipe(), 60);
    }

    private static void allAreInAndNoneMoves() {
        KineticCup x = new KineticCup();
        for (int r = 0; r < 8; r++) {
            DUE.is("1: in " + r, x.told(10 + r), 1);
            DUE.is("1: kind " + r, x.told(20 + r), r / 4);
            DUE.is("1: place " + r, x.told(30 + r), r);
            DUE.is("1: B " + r, x.told(40 + r), 0);
            DUE.is("1: B behind " + r, x.behind(r, 3), 0);
            DUE.is("1: A " + r, x.behind(r, 2), 10 * r);
            DUE.is("1: at the end of time " + r, x.value(r, 9999, 1, 0), 10 * r);
        }
        DUE.is("1: signs", x.told(0), 0);
        DUE.is("1: second", x.told(1), 0);
        DUE.is("1: leads", x.told(2), 7);
        DUE.is("1: queue", x.told(3), 0);
        DUE.is("1: sights", x.told(4), 0);
        DUE.is("1: no change", x.next(0), NO_NEXT);
        DUE.is("1: no image", x.restore(0), STATE);
        DUE.is("1: no image", x.restore(1), STATE);
    }

    private static void runnerTakesTheBounds() {
        for (int a = -1000; a <= 1000; a += 2000) {
            for (int b = -50; b <= 50; b += 100) {
                for (int r = 0; r < 8; r += 7) {
                    KineticCup x = new KineticCup();
                    DUE.is("2: taken", x.runner(r, 0, a, b), r == 0 ? 1 : 11);
                    DUE.is("2: A", x.behind(r, 2), a);
                    DUE.is("2: B", x.told(40 + r), b);
                    DUE.is("2: KIND", x.told(20 + r), 0);
                    DUE.is("2: at 1", x.value(r, 1, 1, 0), a + b);
                }
            }
        }
        KineticCup x = new KineticCup();
        DUE.is("2: kind 1", x.runner(7, 1, 0, 0), 11);
        DUE.is("2: kind 0", x.runner(7, 0, 0, 0), 11);
        DUE.is("2: kind 1", x.runner(7, 1, 0, 0), 1);
    }

    private static void runnerTellsWhatItWas() {
        KineticCup x = new KineticCup();
        Due.does(x, "a!h!g!");
        DUE.is("2: steady, out", x.runner(0, 0, 0, 0), 0);
        DUE.is("2: free, out", x.runner(7, 0, 70, 0), 10);
        DUE.is("2: steady now, in", x.runner(7, 1, 70, 0), 1);
        DUE.is("2: free, in", x.runner(7, 1, 70, 0), 11);
        DUE.is("2: it is in", x.told(17), 1);
        DUE.is("2: the others are as they were", x.told(16), 0);
        DUE.is("2: a is in", x.told(10), 1);
    }

    private static void aLaneTakes() {
        KineticCup x = new KineticCup();
        DUE.is("2: place 3 is of lane 0", x.runner(3, 1, 0, 0), STATE);
        DUE.is("2: place 4 is of lane 1", x.runner(4, 1, 40, 0), 11);
        DUE.is("2: lane 1 takes steady ones too", x.runner(4, 0, 40, 0), 11);
        DUE.is("2: they exchange", Due.does(x, "d%e"), 1);
        DUE.is("2: d is on place 4", x.told(33), 4);
        DUE.is("2: e is on place 3", x.told(34), 3);
        DUE.is("2: lane 0", x.runner(4, 1, 40, 0), STATE);
        DUE.is("2: lane 1", x.runner(3, 1, 30, 0), 1);
        Due.does(x, "e!");
        DUE.is("2: nor one who is out", x.runner(4, 1, 40, 0), STATE);
        DUE.is("2: it stays out", x.told(14), 0);
    }

    private static void aheadIsWhoIsGreater() {
        KineticCup x = new KineticCup();
        x.runner(6, 1, 71, -1);
        DUE.is("1: g is greater by 1", x.told(57), 6);
        DUE.is("1: by a hundredth", x.leads(99, 100), 6);
        DUE.is("1: and then not", x.leads(101, 100), 7);
        x.runner(6, 1, -1000, 0);
        x.runner(7, 1, -999, -50);
        DUE.is("1: also less than 0", x.told(57), 7);
        x.runner(7, 1, 1000, -50);
        DUE.is("1: though it falls", x.told(57), 7);
        x.runner(6, 1, 999, 50);
        DUE.is("1: though the other one rises", x.told(57), 7);
    }

    private static void aheadIfAsGreatIsTheSteeper() {
        KineticCup x = new KineticCup();
        x.runner(6, 1, 70, 1);
        DUE.is("1: the steeper one", x.told(57), 6);
        x.runner(6, 1, 70, -1);
        DUE.is("1: though its number is greater", x.told(57), 7);
        x.runner(6, 1, 71, -1);
        DUE.is("1: at the time at which they are as great", x.leads(1, 1), 7);
        x.runner(6, 1, 69, 1);
        DUE.is("1: at the time at which they are as great", x.leads(1, 1), 6);
        x.runner(6, 1, 70, -50);
        x.runner(7, 1, 70, -49);
        DUE.is("1: who falls less is steeper", x.told(57), 7);
    }

    private static void aheadIfAsSteepIsTheLess() {
        KineticCup x = new KineticCup();
        for (int r = 0; r < 8; r++) {
            x.runner(r, 0, 5, 3);
        }
        int[] winners = {0, 0, 4, 0, 2, 4, 6};
        for (int m = 1; m <= 7; m++) {
            DUE.is("1: the less number at match " + m, x.told(50 + m), winners[m - 1]);
        }
        DUE.is("1: for ever", x.told(3), 0);
        DUE.is("1: at any time", x.leads(9999, 1), 0);
        Due.does(x, "a%hb%c");
        int[] places = {0, 1, 0, 2, 1, 4, 0};
        for (int m = 1; m <= 7; m++) {
            DUE.is("1: not the less place, at match " + m, x.told(50 + m), places[m - 1]);
        }
    }

    private static void whoIsOutIsNotAhead() {
        KineticCup x = new KineticCup();
        x.runner(7, 1, 1000, 50);
        Due.does(x, "h!");
        DUE.is("1: g wins", x.told(57), 6);
        DUE.is("1: g leads", x.leads(9999, 1), 6);
        DUE.is("1: g for ever", x.ever(9999, 1), 64);
        Due.does(x, "h#");
        DUE.is("1: h wins", x.told(57), 7);
        DUE.is("1: h leads", x.leads(0, 1), 7);
    }

    /** Who is to win is raised far; which matches it then wins tells who meets where. */
    private static void whoMeetsWhere() {
        for (int r = 0; r < 8; r++) {
            KineticCup x = new KineticCup();
            x.runner(r, 0, 1000, 0);
            int first = 4 + r / 2;
            for (int m = 1; m <= 7; m++) {
                boolean wins = m == first || m == first / 2 || m == 1;
                DUE.isTrue("1: " + r + " at match " + m, x.told(50 + m) == r == wins);
            }
        }
    }

    private static void ofOneAloneThatOneOfNoneNone() {
        KineticCup x = new KineticCup();
        Due.does(x, "a!d!f!g!");
        int[] alone = {7, 2, 7, 1, 2, 4, 7};
        for (int m = 1; m <= 7; m++) {
            DUE.is("1: one alone at match " + m, x.told(50 + m), alone[m - 1]);
        }
        Due.does(x, "b!e!");
        int[] fewer = {7, 2, 7, NONE, 2, NONE, 7};
        for (int m = 1; m <= 7; m++) {
            DUE.is("1: none from one side, match " + m, x.told(50 + m), fewer[m - 1]);
        }
        Due.does(x, "h!");
        int[] last = {2, 2, NONE, NONE, 2, NONE, NONE};
        for (int m = 1; m <= 7; m++) {
            DUE.is("1: one of all, match " + m, x.told(50 + m), last[m - 1]);
        }
        Due.does(x, "c!e#");
        int[] other = {4, NONE, 4, NONE, NONE, 4, NONE};
        for (int m = 1; m <= 7; m++) {
            DUE.is("1: one of lane 1, match " + m, x.told(50 + m), other[m - 1]);
        }
        Due.does(x, "e!");
        for (int m = 1; m <= 7; m++) {
            DUE.is("1: none at match " + m, x.told(50 + m), NONE);
        }
        DUE.is("1: none leads", x.told(2), NONE);
    }

    private static void aCertificateNeedsTwo() {
        KineticCup x = new KineticCup();
        x.runner(6, 1, 60, 1);
        DUE.is("1: g will pass h", x.told(3), 1);
        Due.does(x, "h!");
        DUE.is("1: g alone, and ahead of f", x.told(3), 0);
        Due.does(x, "h#g!");
        DUE.is("1: h alone", x.told(3), 0);
        Due.does(x, "g#");
        DUE.is("1: both again", x.told(3), 1);
        Due.does(x, "a!b!c!d!e!f!h!");
        DUE.is("1: g alone at all its matches", x.told(3), 0);
        DUE.is("1: none is next", x.where(), NONE);
        Due.does(x, "g!");
        DUE.is("1: none at all", x.told(3), 0);
    }

    private static void aCertificateNeedsThatTheOtherEverIsAhead() {
        KineticCup x = new KineticCup();
        x.runner(6, 1, 69, 0);
        DUE.is("1: as steep", x.told(3), 0);
        x.runner(6, 1, 70, 0);
        DUE.is("1: the same line", x.told(3), 0);
        x.runner(6, 1, 69, -1);
        DUE.is("1: less steep", x.told(3), 0);
        x.runner(6, 1, 70, 1);
        DUE.is("1: ahead already", x.told(3), 0);
        x.runner(6, 1, 69, 1);
        DUE.is("1: steeper", x.told(3), 1);
        x.runner(6, 1, 71, -1);
        DUE.is("1: all others are steeper: matches 7, 3 and 1", x.told(3), 3);
    }

    private static void dueAt(KineticCup x, long upper, long lower, int match) {
        DUE.is("1: due, upper", x.next(0), upper);
        DUE.is("1: due, lower", x.next(1), lower);
        DUE.is("1: at", x.where(), match);
    }

    private static void aCertificateIsDueWhenTheOtherFirstIsAhead() {
        KineticCup x = new KineticCup();
        x.runner(7, 1, 70, -50);
        x.runner(6, 1, 69, 50);
        dueAt(x, 1, 100, 7);
        x.runner(6, 1, -1000, 0);
        x.runner(7, 1, 1000, -1);
        x.runner(5, 1, -1000, 0);
        x.runner(4, 1, -1000, 0);
        for (int r = 0; r < 4; r++) {
            x.runner(r, 0, -1000, -1);
        }
        dueAt(x, 2000, 1, 7);
        // e and f have the line of g: match 3 is next at that time as well, and has e.
        Due.does(x, ".");
        dueAt(x, 2000, 1, 7);
    }

    private static void thePadHas60Signs() {
        KineticCup x = new KineticCup();
        for (int i = 1; i <= 60; i++) {
            DUE.is("3: sign " + i, x.say('.'), i);
        }
        DUE.is("3: one more", x.say('.'), -4);
        DUE.is("3: 60 stay", x.told(0), 60);
        DUE.is("3: they are acts", x.done(), 60);
        DUE.is("3: room again", x.say('.'), 1);
    }

    private static void signsAre33To126() {
        KineticCup x = new KineticCup();
        DUE.is("3: 32", x.say(32), -2);
        DUE.is("3: 127", x.say(127), -2);
        for (int sign = 33; sign <= 92; sign++) {
            DUE.is("3: sign " + sign, x.say(sign), sign - 32);
        }
        x.wipe();
        for (int sign = 93; sign <= 126; sign++) {
            DUE.is("3: sign " + sign, x.say(sign), sign - 92);
        }
    }

    private static void wipeOfAnEmptyPad() {
        KineticCup x = new KineticCup();
        DUE.is("4: empty", x.wipe(), 0);
        x.say('x');
        DUE.is("4: one", x.wipe(), 1);
        DUE.is("4: empty again", x.wipe(), 0);
        Due.pad(x, "x".repeat(60));
        DUE.is("4: full", x.wipe(), 60);
        DUE.is("4: no fault of an empty pad", x.fault(), NONE);
        DUE.is("4: room again", x.say('a'), 1);
        DUE.is("4: what was there is gone", x.fault(), 1);
    }

    private static void faultIs(String text, int due) {
        KineticCup x = new KineticCup();
        Due.pad(x, text);
        DUE.is("5: fault of " + text, x.fault(), due);
    }

    private static void firstSigns() {
        for (char sign = 33; sign <= 126; sign++) {
            boolean letter = sign >= 'a' && sign <= 'h';
            faultIs("" + sign, letter ? 1 : sign == '.' ? NONE : 0);
            faultIs(".h+" + sign, letter ? 4 : sign == '.' ? NONE : 3);
            faultIs("a%h" + sign, letter ? 4 : sign == '.' ? NONE : 3);
        }
    }

    private static void secondSigns() {
        for (char sign = 33; sign <= 126; sign++) {
            boolean whole = "+-!#".indexOf(sign) >= 0;
            faultIs("a" + sign, whole ? NONE : sign == '%' ? 2 : 1);
            faultIs(".h" + sign + ".", whole ? NONE : sign == '%' ? 3 : 2);
        }
    }

    private static void thirdSigns() {
        for (char sign = 33; sign <= 126; sign++) {
            boolean letter = sign >= 'a' && sign <= 'h';
            faultIs("a%" + sign, letter ? NONE : 2);
            faultIs("a!h%" + sign + "..", letter ? NONE : 4);
        }
    }

    private static void moreMustCome() {
        faultIs("", NONE);
        faultIs("a", 1);
        faultIs("a%", 2);
        faultIs(".".repeat(59) + "a", 60);
        faultIs(".".repeat(58) + "a%", 60);
        faultIs(".".repeat(58) + "a+", NONE);
        faultIs(".".repeat(57) + "a%b", NONE);
        faultIs(".".repeat(59) + "x", 59);
        faultIs(".".repeat(58) + "ax", 59);
        faultIs(".".repeat(57) + "a%x", 59);
        faultIs("a+".repeat(30), NONE);
        faultIs("x" + ".".repeat(58) + "a", 0);
    }

    /** What stood on the pad ahead of wipe or done would make the short text whole. */
    private static void signsThatWentDoNotCount() {
        KineticCup x = new KineticCup();
        Due.pad(x, "h!e%f.a#");
        x.wipe();
        x.say('h');
        DUE.is("5: wiped, one sign", x.fault(), 1);
        DUE.is("6: wiped, one sign", x.judge(0), -5);
        DUE.is("7: wiped, one sign", x.done(), -5);
        Due.pad(x, "e%f..");
        DUE.is("7: three acts", x.done(), 3);
        x.say('e');
        DUE.is("5: done, one sign", x.fault(), 1);
        x.say('%');
        DUE.is("5: done, two signs", x.fault(), 2);
        x.say('g');
        DUE.is("5: done, three signs", x.fault(), NONE);
        DUE.is("7: one act", x.done(), 1);
    }
}
