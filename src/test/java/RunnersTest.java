/** Promises 1 to 5: a new object, runner, say, wipe, fault. */
public final class RunnersTest {
    private static final Due DUE = new Due("RunnersTest");

    public static void main(String[] args) {
        newObject();
        runnerAnswersWhatWas();
        runnerRefusals();
        runnerBeginsAnew();
        runnerComesIn();
        equalKeys();
        saySigns();
        wipeSigns();
        faults();
        DUE.end();
    }

    private static void newObject() {
        KineticCup x = new KineticCup();
        int[] all = {0, 0, 7, 0, 0};
        for (int i = 0; i < all.length; i++) {
            DUE.is("1: told(" + i + ")", x.told(i), all[i]);
        }
        for (int r = 0; r < 8; r++) {
            DUE.is("1: IN of " + r, x.told(10 + r), 1);
            DUE.is("1: KIND of " + r, x.told(20 + r), r < 4 ? 0 : 1);
            DUE.is("1: PLACE of " + r, x.told(30 + r), r);
            DUE.is("1: B of " + r, x.told(40 + r), 0);
            DUE.is("1: A of " + r, x.value(r, 0, 1, 0), 10 * r);
            DUE.is("1: later " + r, x.value(r, 9999, 1, 0), 10 * r);
        }
        int[] winners = {7, 3, 7, 1, 3, 5, 7};
        for (int m = 1; m <= 7; m++) {
            DUE.is("1: WINNER of " + m, x.told(50 + m), winners[m - 1]);
        }
        DUE.is("1: next", x.next(0), KineticCup.LOST + KineticCup.STATE);
        DUE.is("1: restore(0)", x.restore(0), KineticCup.STATE);
        DUE.is("1: restore(1)", x.restore(1), KineticCup.STATE);
    }

    private static void runnerAnswersWhatWas() {
        KineticCup x = new KineticCup();
        DUE.is("2: steady", x.runner(0, 0, 5, 3), 1);
        DUE.is("2: free becomes steady", x.runner(4, 0, 5, 3), 11);
        DUE.is("2: steady becomes free", x.runner(4, 1, 5, 3), 1);
        DUE.is("2: KIND", x.told(24), 1);
        DUE.is("2: B", x.told(44), 3);
        DUE.is("2: A", x.value(4, 0, 1, 0), 5);
        DUE.is("2: a line", x.value(4, 7, 2, 0), 31);
        DUE.is("2: a line, lower", x.value(4, 7, 2, 1), 2);
    }

    private static void runnerRefusals() {
        KineticCup x = new KineticCup();
        DUE.is("2: runner 8", x.runner(8, 0, 0, 0), -1);
        DUE.is("2: runner -1", x.runner(-1, 0, 0, 0), -1);
        DUE.is("2: runner least", x.runner(Integer.MIN_VALUE, 5, 5000, 5000), -1);
        DUE.is("2: UNKNOWN is ahead of OUTSIDE", x.runner(8, 2, 1001, 51), -1);
        DUE.is("2: kind 2", x.runner(4, 2, 0, 0), -2);
        DUE.is("2: kind -1", x.runner(4, -1, 0, 0), -2);
        DUE.is("2: a 1001", x.runner(4, 1, 1001, 0), -2);
        DUE.is("2: a -1001", x.runner(4, 1, -1001, 0), -2);
        DUE.is("2: b 51", x.runner(4, 1, 0, 51), -2);
        DUE.is("2: b -51", x.runner(4, 1, 0, -51), -2);
        DUE.is("2: a least", x.runner(4, 1, Integer.MIN_VALUE, 0), -2);
        DUE.is("2: b most", x.runner(4, 1, 0, Integer.MAX_VALUE), -2);
        DUE.is("2: OUTSIDE is ahead of STATE", x.runner(0, 1, 1001, 0), -2);
        for (int r = 0; r < 4; r++) {
            DUE.is("2: lane 0 takes no free one", x.runner(r, 1, 900, 9), -3);
            DUE.is("2: nothing is changed", x.value(r, 1, 1, 0), 10 * r);
        }
        DUE.is("2: edges", x.runner(4, 1, 1000, 50), 11);
        DUE.is("2: edges", x.runner(4, 0, -1000, -50), 11);
        DUE.is("2: e goes to lane 0", Due.does(x, "a%e"), 1);
        DUE.is("2: the lane is that of the place", x.runner(4, 1, 0, 0), -3);
        DUE.is("2: and of the other one", x.runner(0, 1, 0, 0), 1);
    }

    private static void runnerBeginsAnew() {
        KineticCup x = new KineticCup();
        x.runner(5, 1, 50, 1);
        x.runner(6, 1, 60, 1);
        DUE.is("2: both are certified", x.told(3), 2);
        Due.does(x, "..........");
        DUE.is("2: a stale one lies there", x.told(3), 1);
        x.runner(0, 0, 0, 0);
        DUE.is("2: the queue is empty", x.told(3), 0);
        DUE.is("2: the second stays", x.told(1), 10);
        x.runner(7, 1, 61, 1);
        DUE.is("2: winner as of now", x.told(57), 7);
        x.runner(7, 1, 59, 1);
        DUE.is("2: winner as of now", x.told(57), 6);
        x.runner(7, 1, 49, 2);
        DUE.is("2: due is 11", x.next(0), 11);
        x.runner(7, 1, 50, 2);
        DUE.is("2: as great now, steeper", x.told(57), 7);
        DUE.is("2: no certificate then", x.next(0), KineticCup.LOST + KineticCup.STATE);
    }

    private static void runnerComesIn() {
        KineticCup x = new KineticCup();
        DUE.is("2: h goes", Due.does(x, "h!a!"), 2);
        DUE.is("2: h is out", x.told(17), 0);
        DUE.is("2: g leads", x.told(2), 6);
        DUE.is("2: it was out", x.runner(7, 1, 70, 0), 10);
        DUE.is("2: it was out", x.runner(0, 0, 0, 0), 0);
        DUE.is("2: it is in", x.told(17), 1);
        DUE.is("2: h leads", x.told(2), 7);
    }

    private static void equalKeys() {
        KineticCup x = new KineticCup();
        x.runner(6, 1, 70, 0);
        DUE.is("2: as great and as steep: the less number", x.told(57), 6);
        DUE.is("2: for ever", x.told(3), 0);
        x.runner(6, 1, 70, -1);
        DUE.is("2: as great: the steeper one", x.told(57), 7);
        DUE.is("2: for ever", x.told(3), 0);
        x.runner(6, 1, 70, 1);
        DUE.is("2: as great: the steeper one", x.told(57), 6);
        x.runner(6, 1, 70, 0);
        Due.does(x, "g%h");
        DUE.is("2: the less number, on the other place", x.told(57), 6);
        x.runner(6, 1, 69, 0);
        DUE.is("2: the greater one", x.told(57), 7);
        x.runner(6, 1, 71, -50);
        DUE.is("2: the greater one, though it falls", x.told(57), 6);
        DUE.is("2: till", x.next(0), 1);
        DUE.is("2: till", x.next(1), 50);
    }

    private static void saySigns() {
        KineticCup x = new KineticCup();
        DUE.is("3: 32", x.say(32), -2);
        DUE.is("3: 127", x.say(127), -2);
        DUE.is("3: -1", x.say(-1), -2);
        DUE.is("3: most", x.say(Integer.MAX_VALUE), -2);
        DUE.is("3: 33", x.say(33), 1);
        DUE.is("3: 126", x.say(126), 2);
        for (int i = 3; i <= 60; i++) {
            DUE.is("3: sign " + i, x.say('.'), i);
        }
        DUE.is("3: full", x.say('.'), -4);
        DUE.is("3: OUTSIDE is ahead of FULL", x.say(32), -2);
        DUE.is("3: nothing is changed", x.told(0), 60);
    }

    private static void wipeSigns() {
        KineticCup x = new KineticCup();
        DUE.is("4: none", x.wipe(), 0);
        Due.pad(x, "a!b");
        DUE.is("4: three", x.wipe(), 3);
        DUE.is("4: none now", x.wipe(), 0);
        DUE.is("4: no fault", x.fault(), -6);
        DUE.is("4: anew", x.say('.'), 1);
    }

    private static void faults() {
        KineticCup x = new KineticCup();
        String[] texts = {"", ".", "..", "a+", "h-", "c!", "d#", "a%b", "a%a", ".a+.b%c.d!",
            "a", "+", "i", "`", "A", "a.", "ab", "a%", "a%i", "a%%", "a+b", "a%b+", "..x", "a!%",
            "a#h%", "h%h", "i+", "a%`", "!", "#", "%", "a*", "a,", ".a%b.c", "a%ba%b.x"};
        int[] want = {-6, -6, -6, -6, -6, -6, -6, -6, -6, -6,
            1, 0, 0, 0, 0, 1, 1, 2, 2, 2, 3, 3, 2, 2,
            4, -6, 0, 2, 0, 0, 0, 1, 1, 6, 7};
        for (int i = 0; i < texts.length; i++) {
            Due.pad(x, texts[i]);
            DUE.is("5: fault of " + texts[i], x.fault(), want[i]);
            DUE.is("5: the text stays", x.told(0), texts[i].length());
        }
        String full = "a%b".repeat(20);
        Due.pad(x, full);
        DUE.is("5: a full pad", x.fault(), -6);
        Due.pad(x, "." + full.substring(0, 57) + "a%");
        DUE.is("5: more must come than the pad takes", x.fault(), 60);
    }
}
