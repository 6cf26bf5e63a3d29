import java.util.Random;

/** All calls, drawn at random by fixed seeds, answered by the class and by the model. */
public final class ModelTest {
    private static final Due DUE = new Due("ModelTest");
    private static final int CALLS = 512;

    private final Random random;
    private final int objectNumber;
    private final KineticCup cup = new KineticCup();
    private final Model model = new Model();
    private int left = CALLS;

    private ModelTest(int seed) {
        random = new Random(seed);
        objectNumber = seed;
    }

    public static void main(String[] args) {
        int objects = args.length > 0 ? Integer.parseInt(args[0]) : 300;
        for (int seed = 0; seed < objects; seed++) {
            new ModelTest(seed).go();
        }
        for (int seed = 0; seed < 10 * objects; seed++) {
            new ModelTest(seed).race();
        }
        DUE.end();
    }

    private void go() {
        // Small numbers make many runners meet at once; great ones go to the edges.
        int spread = objectNumber % 4;
        while (left > 0) {
            int draw = random.nextInt(100);
            if (draw < 22) {
                days();
            } else if (draw < 42) {
                line(spread);
            } else if (draw < 60) {
                leaders();
            } else if (draw < 70) {
                numbers();
            } else if (draw < 80) {
                sights();
            } else if (draw < 90) {
                others();
            } else {
                same("told", any(-3, 62));
            }
        }
    }

    /** Eight lines, then seconds alone: what was made stale lies long in the queue. */
    private void race() {
        int[] slopes = {3, 8, 20, 50};
        int[] bases = {8, 60, 300, 1000};
        int spread = objectNumber % 4;
        for (int runner = 0; runner < 8; runner++) {
            int slope = any(-slopes[spread], slopes[spread]);
            // Who is behind is steep, so that many pass one another.
            int base = any(0, 3) == 0 ? any(-bases[spread], bases[spread]) : -slope * any(1, 20);
            same("runner", runner, runner / 4, base, slope);
        }
        for (int text = 0; text < 4; text++) {
            int seconds = any(1, 25);
            for (int i = 0; i < seconds; i++) {
                same("say", '.');
            }
            for (int what = 0; what < 7; what++) {
                same("then", what);
            }
            same("done");
            same("told", 3);
            same("where");
            same("next", any(0, 1));
            same(any(0, 3) == 0 ? "image" : "restore", any(0, 1));
        }
    }

    private int any(int least, int most) {
        return least + random.nextInt(most - least + 1);
    }

    /** Mostly within the bounds, now and then one past them or far out. */
    private int near(int least, int most) {
        int draw = random.nextInt(40);
        if (draw == 0) {
            return least - 1;
        }
        if (draw == 1) {
            return most + 1;
        }
        if (draw == 2) {
            return random.nextInt();
        }
        return draw < 6 ? (draw % 2 == 0 ? least : most) : any(least, most);
    }

    private void line(int spread) {
        int[] bases = {5, 30, 100, 1000};
        int[] slopes = {2, 5, 20, 50};
        int runner = near(0, 7);
        int a = near(-bases[spread], bases[spread]);
        int b = near(-slopes[spread], slopes[spread]);
        same("runner", runner, runner < 4 && any(0, 9) > 0 ? 0 : near(0, 1), a, b);
    }

    private void days() {
        same("wipe");
        int most = any(1, 25);
        StringBuilder text = new StringBuilder();
        for (int i = 0; i < most; i++) {
            text.append(act());
        }
        if (any(0, 12) == 0 && text.length() > 0) {
            text.setCharAt(any(0, text.length() - 1), (char) any(32, 127));
        }
        if (any(0, 12) == 0 && text.length() > 0) {
            text.setLength(text.length() - 1);
        }
        for (int i = 0; i < text.length(); i++) {
            same("say", text.charAt(i));
        }
        same("fault");
        same("judge", near(0, 1));
        same("judge", 1);
        for (int i = 0; i < 3; i++) {
            same("behind", near(0, 7), near(0, 3));
            same("winner", near(1, 7));
        }
        for (int what = 0; what < 7; what++) {
            same("then", any(0, 9) == 0 ? near(0, 6) : what);
        }
        if (any(0, 2) > 0) {
            same("done");
            same("told", 3);
        }
    }

    private String act() {
        int draw = any(0, 19);
        if (draw < 14) {
            return ".";
        }
        char letter = (char) ('a' + any(0, 7));
        if (draw < 17) {
            return "efgh".charAt(any(0, 3)) + (any(0, 1) == 0 ? "+" : "-");
        }
        if (draw < 18) {
            return "efgh".charAt(any(0, 3)) + "%" + "efgh".charAt(any(0, 3));
        }
        return draw == 18 ? "" + letter + "!#".charAt(any(0, 1)) : letter + "%" + (char) ('a' + any(0, 7));
    }

    private void leaders() {
        same("next", 0);
        same("next", near(0, 1));
        same("where");
        same("ever", near(0, 9999), near(1, 100));
        same("ever", any(0, 120) * 60, 60);
        same("leads", near(0, 9999), near(1, 100));
        same("leads", any(0, 100) * 12, 12);
    }

    private void numbers() {
        int runner = near(0, 7);
        int p = near(0, 9999);
        int q = near(1, 100);
        same("value", runner, p, q, near(0, 1));
        same("number", runner, p, q, near(0, 2));
        same("number", runner, p, q, any(0, 2));
        same("heap", p, q, near(0, 1));
        same("heap", any(0, 9), q, 0);
        same("cross", near(0, 7), near(0, 7), near(0, 1));
    }

    private void sights() {
        if (any(0, 5) == 0) {
            same("forget");
        }
        int t = near(0, 9);
        boolean least = random.nextBoolean();
        int v = any(0, 3) == 0 ? near(-99, 99) : any(-5, 30);
        DUE.is(at("seen(" + t + ", " + v + ", " + least + ")"), cup.seen(t, v, least), model.seen(t, v, least));
        left--;
        same("lines", -1);
        same("lines", near(-1, 100));
        same("lines", any(0, 10));
        if (any(0, 3) == 0) {
            same("ask", 0);
            same("ask", near(0, 1));
        }
    }

    private void others() {
        switch (any(0, 3)) {
            case 0: same("image", near(0, 1)); break;
            case 1: same("restore", near(0, 1)); break;
            default:
                int seed = near(0, 9999);
                int m = near(1, 99);
                same("run", seed, m, 0);
                same("run", seed, m, 1);
                same("run", seed, m, near(0, 2));
        }
    }

    private String at(String call) {
        return "object " + objectNumber + ", call " + (CALLS - left + 1) + ": " + call;
    }

    private void same(String call, int... x) {
        if (left <= 0) {
            return;
        }
        long got;
        long want;
        switch (call) {
            case "runner": got = cup.runner(x[0], x[1], x[2], x[3]); want = model.runner(x[0], x[1], x[2], x[3]); break;
            case "say": got = cup.say(x[0]); want = model.say(x[0]); break;
            case "wipe": got = cup.wipe(); want = model.wipe(); break;
            case "fault": got = cup.fault(); want = model.fault(); break;
            case "judge": got = cup.judge(x[0]); want = model.judge(x[0]); break;
            case "done": got = cup.done(); want = model.done(); break;
            case "behind": got = cup.behind(x[0], x[1]); want = model.behind(x[0], x[1]); break;
            case "winner": got = cup.winner(x[0]); want = model.winner(x[0]); break;
            case "then": got = cup.then(x[0]); want = model.then(x[0]); break;
            case "leads": got = cup.leads(x[0], x[1]); want = model.leads(x[0], x[1]); break;
            case "next": got = cup.next(x[0]); want = model.next(x[0]); break;
            case "where": got = cup.where(); want = model.where(); break;
            case "ever": got = cup.ever(x[0], x[1]); want = model.ever(x[0], x[1]); break;
            case "value": got = cup.value(x[0], x[1], x[2], x[3]); want = model.value(x[0], x[1], x[2], x[3]); break;
            case "number": got = cup.number(x[0], x[1], x[2], x[3]); want = model.number(x[0], x[1], x[2], x[3]); break;
            case "heap": got = cup.heap(x[0], x[1], x[2]); want = model.heap(x[0], x[1], x[2]); break;
            case "forget": got = cup.forget(); want = model.forget(); break;
            case "lines": got = cup.lines(x[0]); want = model.lines(x[0]); break;
            case "ask": got = cup.ask(x[0]); want = model.ask(x[0]); break;
            case "cross": got = cup.cross(x[0], x[1], x[2]); want = model.cross(x[0], x[1], x[2]); break;
            case "run": got = cup.run(x[0], x[1], x[2]); want = model.run(x[0], x[1], x[2]); break;
            case "image": got = cup.image(x[0]); want = model.image(x[0]); break;
            case "restore": got = cup.restore(x[0]); want = model.restore(x[0]); break;
            case "told": got = cup.told(x[0]); want = model.told(x[0]); break;
            default: throw new IllegalArgumentException(call);
        }
        DUE.is(at(call + java.util.Arrays.toString(x)), got, want);
        left--;
    }
}
