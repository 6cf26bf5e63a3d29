import java.util.ArrayList;
import java.util.List;
import java.util.TreeSet;
import java.util.regex.Pattern;

/**
 * Another program for the same document, slow and by other ways wherever there is one: winners are
 * played out anew at each look, the next change is sought among all crossings, numbers are the
 * machine's own floats and doubles, texts are read by patterns.
 */
final class Model {
    static final int NONE = -6, UNKNOWN = -1, OUTSIDE = -2, STATE = -3, FULL = -4, NO = -5;
    static final long LOST = -1000000000000000000L;
    private static final Pattern WHOLE = Pattern.compile("([a-h]([-+!#]|%[a-h])|\\.)*");
    private static final Pattern BEGUN = Pattern.compile("([a-h]([-+!#]|%[a-h])|\\.)*([a-h]%?)?");

    record Time(long n, long d) implements Comparable<Time> {
        static Time of(long n, long d) {
            long sign = d < 0 ? -1 : 1;
            long g = java.math.BigInteger.valueOf(n).gcd(java.math.BigInteger.valueOf(d)).longValueExact();
            return new Time(sign * n / g, sign * d / g);
        }

        static Time between(Time a, Time b) {
            return of(a.n * b.d + b.n * a.d, 2 * a.d * b.d);
        }

        @Override
        public int compareTo(Time o) {
            return Long.compare(n * o.d, o.n * d);
        }

        long part(int part) {
            return part == 0 ? n : d;
        }
    }

    record Certificate(int match, Time due, int order) { }

    record Act(char deed, int runner, int other) { }

    record Sight(int t, int v, boolean least) { }

    static final class World {
        boolean[] in = {true, true, true, true, true, true, true, true};
        int[] kind = {0, 0, 0, 0, 1, 1, 1, 1};
        int[] place = {0, 1, 2, 3, 4, 5, 6, 7};
        long[] a = {0, 10, 20, 30, 40, 50, 60, 70};
        long[] b = new long[8];
        int second = 0;
        int[] winner = new int[8];
        int[][] meets = new int[8][2];
        List<Certificate> queue = new ArrayList<>();
        int[] last = new int[8];
        int orders = 0;
        List<Sight> sights = new ArrayList<>();
        int taken = 0, stale = 0, events = 0, eventAct = NONE, eventMatch = NONE;

        World() {
            anew();
        }

        World copy() {
            World w = new World();
            w.in = in.clone();
            w.kind = kind.clone();
            w.place = place.clone();
            w.a = a.clone();
            w.b = b.clone();
            w.second = second;
            w.winner = winner.clone();
            for (int m = 0; m < 8; m++) {
                w.meets[m] = meets[m].clone();
            }
            w.queue = new ArrayList<>(queue);
            w.last = last.clone();
            w.orders = orders;
            w.sights = new ArrayList<>(sights);
            return w;
        }

        Time now() {
            return Time.of(second, 1);
        }

        long key(int r, Time t) {
            return a[r] * t.d + b[r] * t.n;
        }

        boolean ahead(int x, int y, Time t) {
            if (key(x, t) != key(y, t)) {
                return key(x, t) > key(y, t);
            }
            return b[x] != b[y] ? b[x] > b[y] : x < y;
        }

        int on(int p) {
            for (int r = 0; r < 8; r++) {
                if (place[r] == p && in[r]) {
                    return r;
                }
            }
            return NONE;
        }

        int better(int x, int y, Time t) {
            if (x == NONE || y == NONE) {
                return x == NONE ? y : x;
            }
            return ahead(x, y, t) ? x : y;
        }

        /** Who wins the match at that time, played out from the places on. */
        int played(int m, Time t) {
            return m > 7 ? on(m - 8) : better(played(2 * m, t), played(2 * m + 1, t), t);
        }

        Time crossing(int x, int y) {
            return b[x] == b[y] ? null : Time.of(a[y] - a[x], b[x] - b[y]);
        }

        void anew() {
            queue.clear();
            last = new int[8];
            for (int m = 7; m >= 1; m--) {
                meets[m][0] = m > 3 ? on(2 * m - 8) : winner[2 * m];
                meets[m][1] = m > 3 ? on(2 * m - 7) : winner[2 * m + 1];
                winner[m] = better(meets[m][0], meets[m][1], now());
                certify(m);
            }
        }

        void certify(int m) {
            orders++;
            last[m] = orders;
            int w = winner[m];
            if (meets[m][0] == NONE || meets[m][1] == NONE) {
                return;
            }
            int other = meets[m][0] == w ? meets[m][1] : meets[m][0];
            if (b[other] > b[w]) {
                queue.add(new Certificate(m, crossing(w, other), orders));
            }
        }

        void second(int act) {
            Time end = Time.of(second + 1, 1);
            while (true) {
                Certificate first = null;
                for (Certificate c : queue) {
                    if (first == null || sooner(c, first)) {
                        first = c;
                    }
                }
                if (first == null || first.due.compareTo(end) > 0) {
                    break;
                }
                queue.remove(first);
                taken++;
                if (first.order != last[first.match]) {
                    stale++;
                } else {
                    events++;
                    if (events == 1) {
                        eventAct = act;
                        eventMatch = first.match;
                    }
                    event(first.match, first.due);
                }
            }
            second++;
        }

        static boolean sooner(Certificate x, Certificate y) {
            if (x.due.compareTo(y.due) != 0) {
                return x.due.compareTo(y.due) < 0;
            }
            return x.match != y.match ? x.match > y.match : x.order < y.order;
        }

        void event(int from, Time t) {
            for (int m = from; m >= 1; m /= 2) {
                int one = m > 3 ? on(2 * m - 8) : winner[2 * m];
                int other = m > 3 ? on(2 * m - 7) : winner[2 * m + 1];
                int won = better(one, other, t);
                boolean meetsAnew = one != meets[m][0] || other != meets[m][1];
                boolean wonAnew = won != winner[m];
                meets[m][0] = one;
                meets[m][1] = other;
                winner[m] = won;
                if (meetsAnew || wonAnew) {
                    certify(m);
                }
                if (!wonAnew) {
                    return;
                }
            }
        }

        static boolean takes(int place, int kind) {
            return place > 3 || kind == 0;
        }

        int why(Act act) {
            int r = act.runner;
            boolean push = act.deed == '+' || act.deed == '-';
            if ((push || act.deed == '!') && !in[r]) {
                return 1;
            }
            if (push && kind[r] == 0) {
                return 2;
            }
            if (act.deed == '+' && b[r] == 50 || act.deed == '-' && b[r] == -50) {
                return 3;
            }
            if (act.deed == '#' && in[r]) {
                return 4;
            }
            if (act.deed == '%' && r == act.other) {
                return 5;
            }
            if (act.deed == '%' && !(takes(place[r], kind[act.other]) && takes(place[act.other], kind[r]))) {
                return 6;
            }
            return act.deed == '.' && second == 99 ? 7 : 0;
        }

        void act(Act act, int number) {
            int r = act.runner;
            if (act.deed == '.') {
                second(number);
                return;
            }
            if (act.deed == '+' || act.deed == '-') {
                long was = a[r] + b[r] * second;
                b[r] += act.deed == '+' ? 1 : -1;
                a[r] = was - b[r] * second;
            } else if (act.deed == '%') {
                int p = place[r];
                place[r] = place[act.other];
                place[act.other] = p;
            } else {
                in[r] = act.deed == '#';
            }
            anew();
        }

        /** All times later than now at which two who are in have lines that are as great. */
        TreeSet<Time> crossings() {
            TreeSet<Time> times = new TreeSet<>();
            for (int x = 0; x < 8; x++) {
                for (int y = 0; y < x; y++) {
                    Time t = crossing(x, y);
                    if (in[x] && in[y] && t != null && t.compareTo(now()) > 0) {
                        times.add(t);
                    }
                }
            }
            return times;
        }
    }

    private World world = new World();
    private String pad = "";
    private final World[] images = new World[2];
    private World after;
    private int acts, stopAct, stopWhy;

    private static boolean isRunner(int r) {
        return 0 <= r && r <= 7;
    }

    private static boolean isTime(int p, int q) {
        return 0 <= p && p <= 9999 && 1 <= q && q <= 100;
    }

    int runner(int runner, int kind, int a, int b) {
        if (!isRunner(runner)) {
            return UNKNOWN;
        }
        if (kind < 0 || kind > 1 || a < -1000 || a > 1000 || b < -50 || b > 50) {
            return OUTSIDE;
        }
        if (!World.takes(world.place[runner], kind)) {
            return STATE;
        }
        int was = 10 * world.kind[runner] + (world.in[runner] ? 1 : 0);
        world.kind[runner] = kind;
        world.a[runner] = a;
        world.b[runner] = b;
        world.in[runner] = true;
        world.anew();
        return was;
    }

    int say(int sign) {
        if (sign < 33 || sign > 126) {
            return OUTSIDE;
        }
        if (pad.length() == 60) {
            return FULL;
        }
        pad += (char) sign;
        return pad.length();
    }

    int wipe() {
        int n = pad.length();
        pad = "";
        return n;
    }

    int fault() {
        for (int k = 1; k <= pad.length(); k++) {
            if (!BEGUN.matcher(pad.substring(0, k)).matches()) {
                return k - 1;
            }
        }
        return WHOLE.matcher(pad).matches() ? NONE : pad.length();
    }

    private boolean plays() {
        if (fault() != NONE) {
            return false;
        }
        after = world.copy();
        acts = 0;
        stopAct = NONE;
        stopWhy = NONE;
        String rest = pad;
        while (!rest.isEmpty()) {
            int length = rest.charAt(0) == '.' ? 1 : rest.charAt(1) == '%' ? 3 : 2;
            Act act = length == 1 ? new Act('.', 0, 0)
                    : new Act(rest.charAt(1), rest.charAt(0) - 'a', length == 3 ? rest.charAt(2) - 'a' : 0);
            int why = after.why(act);
            if (why != 0) {
                stopAct = acts;
                stopWhy = why;
                return false;
            }
            after.act(act, acts);
            acts++;
            rest = rest.substring(length);
        }
        return true;
    }

    int judge(int what) {
        if (what < 0 || what > 1) {
            return OUTSIDE;
        }
        if (fault() != NONE) {
            return NO;
        }
        plays();
        return what == 0 ? stopAct : stopWhy;
    }

    int done() {
        if (!plays()) {
            return NO;
        }
        world = after.copy();
        pad = "";
        return acts;
    }

    int behind(int runner, int what) {
        if (!isRunner(runner)) {
            return UNKNOWN;
        }
        if (what < 0 || what > 3) {
            return OUTSIDE;
        }
        if (!plays()) {
            return NO;
        }
        return new int[] {after.in[runner] ? 1 : 0, after.place[runner], (int) after.a[runner],
            (int) after.b[runner]}[what];
    }

    int winner(int match) {
        if (match < 1 || match > 7) {
            return UNKNOWN;
        }
        return plays() ? after.played(match, after.now()) : NO;
    }

    int then(int what) {
        if (what < 0 || what > 6) {
            return OUTSIDE;
        }
        if (!plays()) {
            return NO;
        }
        return new int[] {after.second, after.played(1, after.now()), after.taken, after.stale,
            after.events, after.eventAct, after.eventMatch}[what];
    }

    int leads(int p, int q) {
        return isTime(p, q) ? world.played(1, Time.of(p, q)) : OUTSIDE;
    }

    private Time nextTime;
    private int nextMatch;

    private void seekNext() {
        nextTime = null;
        nextMatch = NONE;
        Time before = world.now();
        for (Time t : world.crossings()) {
            Time just = Time.between(before, t);
            for (int m = 7; m >= 1; m--) {
                if (world.played(m, just) != world.played(m, t)) {
                    nextTime = t;
                    nextMatch = m;
                    return;
                }
            }
            before = t;
        }
    }

    long next(int part) {
        if (part < 0 || part > 1) {
            return LOST + OUTSIDE;
        }
        seekNext();
        return nextTime == null ? LOST + STATE : nextTime.part(part);
    }

    int where() {
        seekNext();
        return nextMatch;
    }

    int ever(int p, int q) {
        if (!isTime(p, q) || Time.of(p, q).compareTo(world.now()) < 0) {
            return OUTSIDE;
        }
        TreeSet<Time> times = new TreeSet<>();
        Time end = Time.of(p, q);
        times.add(world.now());
        times.add(end);
        Time before = world.now();
        for (Time t : world.crossings()) {
            times.add(t);
            times.add(Time.between(before, t));
            before = t;
        }
        int bits = 0;
        for (Time t : times.headSet(end, true)) {
            int leader = world.played(1, t);
            bits |= leader == NONE ? 0 : 1 << leader;
        }
        return bits;
    }

    long value(int runner, int p, int q, int part) {
        if (!isRunner(runner)) {
            return LOST + UNKNOWN;
        }
        if (!isTime(p, q) || part < 0 || part > 1) {
            return LOST + OUTSIDE;
        }
        return Time.of(world.a[runner] * q + world.b[runner] * p, q).part(part);
    }

    private float single(int runner, int p, int q) {
        return (float) (world.a[runner] * q + world.b[runner] * p) / q;
    }

    long number(int runner, int p, int q, int what) {
        if (!isRunner(runner)) {
            return LOST + UNKNOWN;
        }
        if (!isTime(p, q) || what < 0 || what > 2) {
            return LOST + OUTSIDE;
        }
        double twice = (double) (world.a[runner] * q + world.b[runner] * p) / q;
        return what == 0 ? Float.floatToIntBits(single(runner, p, q))
                : what == 1 ? Double.doubleToLongBits(twice) : (long) single(runner, p, q);
    }

    long heap(int p, int q, int what) {
        if (!isTime(p, q) || what < 0 || what > 1) {
            return LOST + OUTSIDE;
        }
        float sum = 0;
        for (int r = 0; r < 8; r++) {
            if (world.in[r]) {
                sum += single(r, p, q);
            }
        }
        return what == 0 ? Float.floatToIntBits(sum) : (long) sum;
    }

    int seen(int t, int v, boolean least) {
        if (t < 0 || t > 9 || v < -99 || v > 99) {
            return OUTSIDE;
        }
        if (world.sights.size() == 8) {
            return FULL;
        }
        world.sights.add(new Sight(t, v, least));
        return world.sights.size();
    }

    int forget() {
        int n = world.sights.size();
        world.sights.clear();
        return n;
    }

    private List<int[]> fitting() {
        List<int[]> lines = new ArrayList<>();
        for (int a = 0; a <= 30; a++) {
            for (int b = -9; b <= 9; b++) {
                boolean fits = true;
                for (Sight s : world.sights) {
                    int v = a + b * s.t;
                    fits &= s.least ? v >= s.v : v < s.v;
                }
                if (fits) {
                    lines.add(new int[] {a, b});
                }
            }
        }
        return lines;
    }

    int lines(int i) {
        List<int[]> lines = fitting();
        if (i == -1) {
            return lines.size();
        }
        return i < 0 || i >= lines.size() ? NONE : 100 * lines.get(i)[0] + lines.get(i)[1] + 50;
    }

    int ask(int what) {
        if (what < 0 || what > 1) {
            return OUTSIDE;
        }
        List<int[]> lines = fitting();
        if (lines.isEmpty()) {
            return NONE;
        }
        int code = NONE;
        int fewest = Integer.MAX_VALUE;
        for (int t = 0; t <= 9; t++) {
            for (int v = -99; v <= 99; v++) {
                int yes = 0;
                for (int[] line : lines) {
                    yes += line[0] + line[1] * t >= v ? 1 : 0;
                }
                int most = Math.max(yes, lines.size() - yes);
                if (most < fewest) {
                    fewest = most;
                    code = 1000 * t + v + 500;
                }
            }
        }
        return what == 0 ? code : fewest;
    }

    long cross(int one, int other, int part) {
        if (!isRunner(one) || !isRunner(other)) {
            return LOST + UNKNOWN;
        }
        if (one == other || part < 0 || part > 1) {
            return LOST + OUTSIDE;
        }
        Time t = world.crossing(one, other);
        return t == null ? LOST + STATE : t.part(part);
    }

    int run(int seed, int m, int what) {
        if (seed < 0 || seed > 9999 || m < 1 || m > 99 || what < 0 || what > 2) {
            return OUTSIDE;
        }
        World w = world.copy();
        long x = seed;
        for (int i = 0; i < m; i++) {
            x = (75 * x + 74) % 65537;
            int draw = (int) (x / 8 % 8);
            Act act = new Act(draw >= 5 ? '.' : "+-!#%".charAt(draw), (int) (x % 8), (int) (x / 64 % 8));
            if (w.why(act) == 0) {
                w.act(act, i);
            }
        }
        return what == 0 ? w.played(1, w.now()) : what == 1 ? w.events : w.stale;
    }

    int image(int n) {
        if (n < 0 || n > 1) {
            return OUTSIDE;
        }
        images[n] = world.copy();
        return 1;
    }

    int restore(int n) {
        if (n < 0 || n > 1) {
            return OUTSIDE;
        }
        if (images[n] == null) {
            return STATE;
        }
        world = images[n].copy();
        return 1;
    }

    int told(int what) {
        int one = Math.floorMod(what, 10);
        switch (Math.floorDiv(what, 10)) {
            case 0:
                return one > 4 ? OUTSIDE : new int[] {pad.length(), world.second,
                    world.played(1, world.now()), world.queue.size(), world.sights.size()}[one];
            case 1: return one > 7 ? OUTSIDE : world.in[one] ? 1 : 0;
            case 2: return one > 7 ? OUTSIDE : world.kind[one];
            case 3: return one > 7 ? OUTSIDE : world.place[one];
            case 4: return one > 7 ? OUTSIDE : (int) world.b[one];
            case 5: return one < 1 || one > 7 ? OUTSIDE : world.played(one, world.now());
            default: return OUTSIDE;
        }
    }
}
