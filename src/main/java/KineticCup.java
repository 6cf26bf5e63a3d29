import java.util.Arrays;

/**
 * A cup among eight runners whose keys move as straight lines, with a queue of certificates that
 * tell till when each match has its winner. All that is told is worked out with whole numbers.
 */
public final class KineticCup {
    public static final int NONE = -6, UNKNOWN = -1, OUTSIDE = -2, STATE = -3, FULL = -4, NO = -5;
    public static final long LOST = -1000000000000000000L;

    private static final int RUNNERS = 8;
    private static final int MATCHES = 7;
    private static final int LANE_PLACES = 4;
    private static final int STEADY = 0;
    private static final int FREE = 1;
    private static final int BASE_MOST = 1000;
    private static final int SLOPE_MOST = 50;
    private static final int LAST_SECOND = 99;
    private static final int TIME_UPPER_MOST = 9999;
    private static final int TIME_LOWER_MOST = 100;

    private static final int FASTER = '+';
    private static final int SLOWER = '-';
    private static final int LEAVE = '!';
    private static final int ENTER = '#';
    private static final int SWAP = '%';
    private static final int WAIT = '.';

    private static final int CAN_BE = 0;
    private static final int IS_OUT = 1;
    private static final int IS_STEADY = 2;
    private static final int AT_SLOPE_END = 3;
    private static final int IS_IN = 4;
    private static final int IS_ITSELF = 5;
    private static final int LANE_REFUSES = 6;
    private static final int AT_LAST_SECOND = 7;

    private static final int SEED_MOST = 9999;
    private static final int DRAWS_MOST = 99;
    private static final String DEED_BY_DRAW = "+-!#%...";
    private static final int IMAGES = 2;

    private final Cup cup;
    private final Pad pad;
    private final Sights sights;
    private final Rehearsal rehearsal;
    private final Search search;
    private final Image[] images;

    public KineticCup() {
        cup = new Cup();
        pad = new Pad();
        sights = new Sights();
        rehearsal = new Rehearsal();
        search = new Search();
        images = new Image[IMAGES];
        for (int i = 0; i < IMAGES; i++) {
            images[i] = new Image();
        }
    }

    // ---- 1 runners, days

    public int runner(int runner, int kind, int a, int b) {
        if (!isRunner(runner)) {
            return UNKNOWN;
        }
        if (kind != STEADY && kind != FREE || !isWithin(a, BASE_MOST) || !isWithin(b, SLOPE_MOST)) {
            return OUTSIDE;
        }
        if (!Cup.laneTakes(cup.placeOf(runner), kind)) {
            return STATE;
        }
        int before = 10 * cup.kindOf(runner) + cup.inOf(runner);
        cup.enroll(runner, kind, a, b);
        return before;
    }

    public int say(int sign) {
        if (sign < Pad.SIGN_LEAST || sign > Pad.SIGN_MOST) {
            return OUTSIDE;
        }
        return pad.add(sign) ? pad.length() : FULL;
    }

    public int wipe() {
        int before = pad.length();
        pad.clear();
        return before;
    }

    public int fault() {
        return pad.firstFault();
    }

    // ---- 2 days

    public int judge(int what) {
        if (what != 0 && what != 1) {
            return OUTSIDE;
        }
        if (pad.firstFault() != NONE) {
            return NO;
        }
        rehearsal.play(cup, pad);
        return what == 0 ? rehearsal.stoppedAct() : rehearsal.stoppedWhy();
    }

    public int done() {
        if (!rehearsal.play(cup, pad)) {
            return NO;
        }
        cup.copy(rehearsal.cup());
        pad.clear();
        return rehearsal.acts();
    }

    public int behind(int runner, int what) {
        if (!isRunner(runner)) {
            return UNKNOWN;
        }
        if (what < 0 || what > 3) {
            return OUTSIDE;
        }
        if (!rehearsal.play(cup, pad)) {
            return NO;
        }
        Cup after = rehearsal.cup();
        switch (what) {
            case 0: return after.inOf(runner);
            case 1: return after.placeOf(runner);
            case 2: return after.baseOf(runner);
            default: return after.slopeOf(runner);
        }
    }

    public int winner(int match) {
        if (!isMatch(match)) {
            return UNKNOWN;
        }
        return rehearsal.play(cup, pad) ? rehearsal.cup().bestOf(match) : NO;
    }

    public int then(int what) {
        if (what < 0 || what > 6) {
            return OUTSIDE;
        }
        if (!rehearsal.play(cup, pad)) {
            return NO;
        }
        Cup after = rehearsal.cup();
        Tally tally = after.tally();
        switch (what) {
            case 0: return after.second();
            case 1: return after.bestOf(1);
            case 2: return tally.taken;
            case 3: return tally.stale;
            case 4: return tally.events;
            case 5: return tally.eventAct;
            default: return tally.eventMatch;
        }
    }

    // ---- 3 who leads, values

    public int leads(int p, int q) {
        return isTime(p, q) ? cup.leaderAt(p, q) : OUTSIDE;
    }

    public long next(int part) {
        if (!isPart(part)) {
            return LOST + OUTSIDE;
        }
        Queue queue = cup.queue();
        int own = queue.earliest(true);
        return own == NONE ? LOST + STATE : lowestTerms(queue.upperOf(own), queue.lowerOf(own), part);
    }

    public int where() {
        Queue queue = cup.queue();
        return queue.matchOf(queue.earliest(true));
    }

    public int ever(int p, int q) {
        if (!isTime(p, q) || p < cup.second() * q) {
            return OUTSIDE;
        }
        return cup.leadersUpTo(p, q);
    }

    public long value(int runner, int p, int q, int part) {
        if (!isRunner(runner)) {
            return LOST + UNKNOWN;
        }
        if (!isTime(p, q) || !isPart(part)) {
            return LOST + OUTSIDE;
        }
        return lowestTerms(cup.keyOf(runner, p, q), q, part);
    }

    public long number(int runner, int p, int q, int what) {
        if (!isRunner(runner)) {
            return LOST + UNKNOWN;
        }
        if (!isTime(p, q) || what < 0 || what > 2) {
            return LOST + OUTSIDE;
        }
        int key = cup.keyOf(runner, p, q);
        switch (what) {
            case 0: return Nearest.singleBits(key, q);
            case 1: return Nearest.doubleBits(key, q);
            default: return Nearest.single(key, q) / Nearest.ONE;
        }
    }

    public long heap(int p, int q, int what) {
        if (!isTime(p, q) || what != 0 && what != 1) {
            return LOST + OUTSIDE;
        }
        long sum = 0;
        for (int runner = 0; runner < RUNNERS; runner++) {
            if (cup.inOf(runner) == 1) {
                long more = Nearest.single(cup.keyOf(runner, p, q), q);
                sum = Nearest.single(sum + more, Nearest.ONE);
            }
        }
        return what == 0 ? Nearest.singleBits(sum, Nearest.ONE) : sum / Nearest.ONE;
    }

    // ---- 4 lines, crossings

    public int seen(int t, int v, boolean least) {
        if (t < 0 || t > Sights.TIME_MOST || !isWithin(v, Sights.KEY_MOST)) {
            return OUTSIDE;
        }
        return sights.add(t, v, least) ? sights.size() : FULL;
    }

    public int forget() {
        int before = sights.size();
        sights.clear();
        return before;
    }

    public int lines(int i) {
        search.gather(sights);
        return i == -1 ? search.size() : search.codeOf(i);
    }

    public int ask(int what) {
        if (what != 0 && what != 1) {
            return OUTSIDE;
        }
        search.gather(sights);
        search.weigh();
        return what == 0 ? search.look() : search.left();
    }

    public long cross(int one, int other, int part) {
        if (!isRunner(one) || !isRunner(other)) {
            return LOST + UNKNOWN;
        }
        if (one == other || !isPart(part)) {
            return LOST + OUTSIDE;
        }
        int upper = cup.baseOf(other) - cup.baseOf(one);
        int lower = cup.slopeOf(one) - cup.slopeOf(other);
        if (lower == 0) {
            return LOST + STATE;
        }
        return lower > 0 ? lowestTerms(upper, lower, part) : lowestTerms(-upper, -lower, part);
    }

    public int run(int seed, int m, int what) {
        if (seed < 0 || seed > SEED_MOST || m < 1 || m > DRAWS_MOST || what < 0 || what > 2) {
            return OUTSIDE;
        }
        rehearsal.draw(cup, seed, m);
        Cup after = rehearsal.cup();
        switch (what) {
            case 0: return after.bestOf(1);
            case 1: return after.tally().events;
            default: return after.tally().stale;
        }
    }

    public int image(int n) {
        if (n < 0 || n >= IMAGES) {
            return OUTSIDE;
        }
        images[n].keep(cup, sights);
        return 1;
    }

    public int restore(int n) {
        if (n < 0 || n >= IMAGES) {
            return OUTSIDE;
        }
        return images[n].giveBack(cup, sights) ? 1 : STATE;
    }

    public int told(int what) {
        if (what < 0) {
            return OUTSIDE;
        }
        return what < 10 ? toldOfAll(what) : toldOfOne(what / 10, what % 10);
    }

    private int toldOfAll(int what) {
        switch (what) {
            case 0: return pad.length();
            case 1: return cup.second();
            case 2: return cup.bestOf(1);
            case 3: return cup.queue().size();
            case 4: return sights.size();
            default: return OUTSIDE;
        }
    }

    private int toldOfOne(int tens, int one) {
        if (tens == 5) {
            return isMatch(one) ? cup.bestOf(one) : OUTSIDE;
        }
        if (!isRunner(one)) {
            return OUTSIDE;
        }
        switch (tens) {
            case 1: return cup.inOf(one);
            case 2: return cup.kindOf(one);
            case 3: return cup.placeOf(one);
            case 4: return cup.slopeOf(one);
            default: return OUTSIDE;
        }
    }

    private static boolean isRunner(int runner) {
        return runner >= 0 && runner < RUNNERS;
    }

    private static boolean isMatch(int match) {
        return match >= 1 && match <= MATCHES;
    }

    private static boolean isWithin(int number, int most) {
        return number >= -most && number <= most;
    }

    private static boolean isTime(int p, int q) {
        return p >= 0 && p <= TIME_UPPER_MOST && q >= 1 && q <= TIME_LOWER_MOST;
    }

    private static boolean isPart(int part) {
        return part == 0 || part == 1;
    }

    /** A part of the fraction in lowest terms; its lower number is greater than 0. */
    private static long lowestTerms(int upper, int lower, int part) {
        int divisor = lower;
        int rest = Math.abs(upper);
        for (int i = 0; i < 64 && rest != 0; i++) {
            int left = divisor % rest;
            divisor = rest;
            rest = left;
        }
        if (divisor == 0) {
            return part == 0 ? upper : lower;
        }
        return part == 0 ? upper / divisor : lower / divisor;
    }

    /** The runners, the matches with their winners, the queue, and the second. */
    private static final class Cup {
        private final int[] kind = new int[RUNNERS];
        private final int[] place = new int[RUNNERS];
        private final int[] base = new int[RUNNERS];
        private final int[] slope = new int[RUNNERS];
        private final boolean[] in = new boolean[RUNNERS];
        private final int[] best = new int[MATCHES + 1];
        private final Queue queue = new Queue();
        private final Tally tally = new Tally();
        private int second = 0;

        Cup() {
            for (int i = 0; i < RUNNERS; i++) {
                kind[i] = i < LANE_PLACES ? STEADY : FREE;
                place[i] = i;
                base[i] = 10 * i;
                slope[i] = 0;
                in[i] = true;
            }
            beginAnew();
        }

        void copy(Cup from) {
            System.arraycopy(from.kind, 0, kind, 0, RUNNERS);
            System.arraycopy(from.place, 0, place, 0, RUNNERS);
            System.arraycopy(from.base, 0, base, 0, RUNNERS);
            System.arraycopy(from.slope, 0, slope, 0, RUNNERS);
            System.arraycopy(from.best, 0, best, 0, MATCHES + 1);
            for (int i = 0; i < RUNNERS; i++) {
                in[i] = from.in[i];
            }
            queue.copy(from.queue);
            second = from.second;
        }

        int kindOf(int runner) {
            return isRunner(runner) ? kind[runner] : NONE;
        }

        int placeOf(int runner) {
            return isRunner(runner) ? place[runner] : NONE;
        }

        int baseOf(int runner) {
            return isRunner(runner) ? base[runner] : 0;
        }

        int slopeOf(int runner) {
            return isRunner(runner) ? slope[runner] : 0;
        }

        int inOf(int runner) {
            return isRunner(runner) && in[runner] ? 1 : 0;
        }

        int bestOf(int match) {
            return isMatch(match) ? best[match] : NONE;
        }

        int second() {
            return second;
        }

        Queue queue() {
            return queue;
        }

        Tally tally() {
            return tally;
        }

        static boolean laneTakes(int place, int kind) {
            return place >= LANE_PLACES || kind == STEADY;
        }

        void enroll(int runner, int newKind, int newBase, int newSlope) {
            if (!isRunner(runner)) {
                return;
            }
            kind[runner] = newKind;
            base[runner] = newBase;
            slope[runner] = newSlope;
            in[runner] = true;
            beginAnew();
        }

        /** The least reason for which the act can not be, or CAN_BE. */
        int hindrance(int deed, int runner, int other) {
            if (deed == WAIT) {
                return second >= LAST_SECOND ? AT_LAST_SECOND : CAN_BE;
            }
            if (!isRunner(runner)) {
                return IS_OUT;
            }
            if (deed == ENTER) {
                return in[runner] ? IS_IN : CAN_BE;
            }
            if (deed == SWAP) {
                return swapHindrance(runner, other);
            }
            if (!in[runner]) {
                return IS_OUT;
            }
            return deed == LEAVE ? CAN_BE : pushHindrance(deed, runner);
        }

        private int swapHindrance(int runner, int other) {
            if (runner == other) {
                return IS_ITSELF;
            }
            boolean taken = laneTakes(placeOf(runner), kindOf(other))
                    && laneTakes(placeOf(other), kindOf(runner));
            return taken ? CAN_BE : LANE_REFUSES;
        }

        private int pushHindrance(int deed, int runner) {
            if (kindOf(runner) == STEADY) {
                return IS_STEADY;
            }
            int end = deed == FASTER ? SLOPE_MOST : -SLOPE_MOST;
            return slopeOf(runner) == end ? AT_SLOPE_END : CAN_BE;
        }

        /** Does an act that can be; act is its number, for the tally. */
        void perform(int act, int deed, int runner, int other) {
            if (deed != WAIT) {
                change(deed, runner, other);
                beginAnew();
                return;
            }
            int until = second + 1;
            boolean more = true;
            for (int i = 0; i < Queue.TAKES_MOST && more; i++) {
                more = takeDue(until, act);
            }
            second = until;
        }

        private void change(int deed, int runner, int other) {
            if (!isRunner(runner)) {
                return;
            }
            switch (deed) {
                case FASTER: push(runner, 1); break;
                case SLOWER: push(runner, -1); break;
                case LEAVE: in[runner] = false; break;
                case ENTER: in[runner] = true; break;
                default: swap(runner, other); break;
            }
        }

        /** The base makes good what the new slope adds, so that the line goes on from where it is. */
        private void push(int runner, int more) {
            if (isRunner(runner)) {
                slope[runner] += more;
                base[runner] -= more * second;
            }
        }

        private void swap(int runner, int other) {
            if (isRunner(runner) && isRunner(other)) {
                int left = place[runner];
                place[runner] = place[other];
                place[other] = left;
            }
        }

        private void beginAnew() {
            queue.clear();
            for (int match = MATCHES; match >= 1; match--) {
                decide(match, second, 1);
            }
        }

        /** Takes the certificate that is due first, if it is by that second; whether there was one. */
        private boolean takeDue(int until, int act) {
            int first = queue.earliest(false);
            int match = queue.matchOf(first);
            int upper = queue.upperOf(first);
            int lower = queue.lowerOf(first);
            if (first == NONE || upper > until * lower) {
                return false;
            }
            boolean changed = queue.isOwn(first);
            queue.remove(first);
            tally.count(changed, act, match);
            for (int above = match; above >= 1 && changed; above /= 2) {
                changed = decide(above, upper, lower);
            }
            return true;
        }

        /**
         * Gives the match its winner at the time of p by q and its certificate; whether that is
         * another winner. It is called only where the winner or who meets has changed, so a
         * certificate is always due to be made.
         */
        private boolean decide(int match, int p, int q) {
            if (!isMatch(match)) {
                return false;
            }
            int one = comer(2 * match);
            int other = comer(2 * match + 1);
            int before = best[match];
            int won = ahead(one, other, p, q);
            best[match] = won;
            certify(match, won, won == one ? other : one);
            return won != before;
        }

        /** Who comes to a match from the match of that number or, past the last one, from a place. */
        private int comer(int from) {
            return from <= MATCHES ? bestOf(from) : whoIsInOn(from - MATCHES - 1);
        }

        private int whoIsInOn(int wanted) {
            for (int runner = 0; runner < RUNNERS; runner++) {
                if (place[runner] == wanted) {
                    return in[runner] ? runner : NONE;
                }
            }
            return NONE;
        }

        /** Who is ahead at the time of p by q; one alone wins, and of none there is none. */
        private int ahead(int one, int other, int p, int q) {
            if (!isRunner(one)) {
                return isRunner(other) ? other : NONE;
            }
            if (!isRunner(other)) {
                return one;
            }
            int lead = (base[one] - base[other]) * q + (slope[one] - slope[other]) * p;
            if (lead == 0) {
                lead = slope[one] - slope[other];
            }
            if (lead == 0) {
                lead = other - one;
            }
            return lead > 0 ? one : other;
        }

        /**
         * Only a steeper one ever passes the winner, and it is ahead from the very time at which
         * the lines are as great; so that time is when the certificate is due.
         */
        private void certify(int match, int won, int lost) {
            queue.disown(match);
            if (isRunner(won) && isRunner(lost) && slope[lost] > slope[won]) {
                queue.put(match, base[won] - base[lost], slope[lost] - slope[won]);
            }
        }

        /** The value of a runner at the time of p by q, times q. */
        int keyOf(int runner, int p, int q) {
            return baseOf(runner) * q + slopeOf(runner) * p;
        }

        int leaderAt(int p, int q) {
            int leader = NONE;
            for (int runner = 0; runner < RUNNERS; runner++) {
                if (in[runner]) {
                    leader = ahead(leader, runner, p, q);
                }
            }
            return leader;
        }

        int leadersUpTo(int p, int q) {
            int leader = leaderAt(second, 1);
            int leaders = 0;
            // Each leader is steeper than the one before it, so there are no more than runners.
            for (int i = 0; i < RUNNERS && isRunner(leader); i++) {
                leaders |= 1 << leader;
                leader = successor(leader, p, q);
            }
            return leaders;
        }

        /** Who leads next after that leader, up to the time of p by q; NONE. */
        private int successor(int leader, int p, int q) {
            int upper = p;
            int lower = q;
            boolean passed = false;
            for (int runner = 0; runner < RUNNERS; runner++) {
                int gain = slopeOf(runner) - slopeOf(leader);
                int gap = baseOf(leader) - baseOf(runner);
                if (in[runner] && gain > 0 && gap * lower <= upper * gain) {
                    upper = gap;
                    lower = gain;
                    passed = true;
                }
            }
            return passed ? leaderAt(upper, lower) : NONE;
        }
    }

    /** The certificates that are not taken yet, in the order in which they were made. */
    private static final class Queue {
        // A match of k runners has another winner k - 1 times at most between two beginnings, and
        // a certificate anew only when another one comes to it: 17 certificates at the most.
        private static final int CAPACITY = 32;
        private static final int TAKES_MOST = 1000;

        private final int[] match = new int[CAPACITY];
        private final int[] upper = new int[CAPACITY];
        private final int[] lower = new int[CAPACITY];
        private final int[] serial = new int[CAPACITY];
        private final int[] lastSerial = new int[MATCHES + 1];
        private int size = 0;
        private int made = 0;

        void copy(Queue from) {
            System.arraycopy(from.match, 0, match, 0, CAPACITY);
            System.arraycopy(from.upper, 0, upper, 0, CAPACITY);
            System.arraycopy(from.lower, 0, lower, 0, CAPACITY);
            System.arraycopy(from.serial, 0, serial, 0, CAPACITY);
            System.arraycopy(from.lastSerial, 0, lastSerial, 0, MATCHES + 1);
            size = from.size;
            made = from.made;
        }

        void clear() {
            Arrays.fill(lastSerial, 0);
            size = 0;
            made = 0;
        }

        int size() {
            return size;
        }

        /** The last certificate of the match is stale from now on. */
        void disown(int ofMatch) {
            if (isMatch(ofMatch)) {
                lastSerial[ofMatch] = 0;
            }
        }

        void put(int ofMatch, int dueUpper, int dueLower) {
            if (size < 0 || size >= CAPACITY || !isMatch(ofMatch)) {
                return;
            }
            made++;
            match[size] = ofMatch;
            upper[size] = dueUpper;
            lower[size] = dueLower;
            serial[size] = made;
            lastSerial[ofMatch] = made;
            size++;
        }

        void remove(int certificate) {
            if (!isHere(certificate)) {
                return;
            }
            for (int i = certificate; i + 1 < size && i + 1 < CAPACITY; i++) {
                match[i] = match[i + 1];
                upper[i] = upper[i + 1];
                lower[i] = lower[i + 1];
                serial[i] = serial[i + 1];
            }
            size--;
        }

        private boolean isHere(int certificate) {
            return certificate >= 0 && certificate < size && certificate < CAPACITY;
        }

        int matchOf(int certificate) {
            return isHere(certificate) ? match[certificate] : NONE;
        }

        int upperOf(int certificate) {
            return isHere(certificate) ? upper[certificate] : 0;
        }

        int lowerOf(int certificate) {
            return isHere(certificate) ? lower[certificate] : 1;
        }

        /** Whether it is the last one that was made for its match. */
        boolean isOwn(int certificate) {
            int ofMatch = matchOf(certificate);
            return isMatch(ofMatch) && serial[certificate] == lastSerial[ofMatch];
        }

        /** The certificate that is taken first, of all or of those that are not stale; NONE. */
        int earliest(boolean ownAlone) {
            int first = NONE;
            for (int i = 0; i < size; i++) {
                if ((!ownAlone || isOwn(i)) && (first == NONE || isSooner(i, first))) {
                    first = i;
                }
            }
            return first;
        }

        /** Those alike are left in the order in which they were made. */
        private boolean isSooner(int one, int other) {
            int left = upperOf(one) * lowerOf(other);
            int right = upperOf(other) * lowerOf(one);
            return left == right ? matchOf(one) > matchOf(other) : left < right;
        }
    }

    /** What came due since the tally was cleared. */
    private static final class Tally {
        private int taken = 0;
        private int stale = 0;
        private int events = 0;
        private int eventAct = NONE;
        private int eventMatch = NONE;

        void clear() {
            taken = 0;
            stale = 0;
            events = 0;
            eventAct = NONE;
            eventMatch = NONE;
        }

        void count(boolean event, int act, int match) {
            taken++;
            if (!event) {
                stale++;
                return;
            }
            if (events == 0) {
                eventAct = act;
                eventMatch = match;
            }
            events++;
        }
    }

    /** The text of the days. */
    private static final class Pad {
        private static final int SIGN_LEAST = 33;
        private static final int SIGN_MOST = 126;
        private static final int SIGNS_MOST = 60;

        private final int[] signs = new int[SIGNS_MOST];
        private int length = 0;

        int length() {
            return length;
        }

        void clear() {
            length = 0;
        }

        boolean add(int sign) {
            if (length < 0 || length >= SIGNS_MOST) {
                return false;
            }
            signs[length] = sign;
            length++;
            return true;
        }

        private int signAt(int at) {
            return at >= 0 && at < length && at < SIGNS_MOST ? signs[at] : NONE;
        }

        private boolean isLetterAt(int at) {
            return isRunner(signAt(at) - 'a');
        }

        int firstFault() {
            int at = 0;
            for (int i = 0; i < SIGNS_MOST && at < length; i++) {
                int wrong = faultOfActAt(at);
                if (wrong != NONE) {
                    // A sign that is not there yet stands at the number of signs.
                    return wrong;
                }
                at += lengthAt(at);
            }
            return NONE;
        }

        private int faultOfActAt(int at) {
            if (signAt(at) == WAIT) {
                return NONE;
            }
            if (!isLetterAt(at)) {
                return at;
            }
            switch (signAt(at + 1)) {
                case FASTER:
                case SLOWER:
                case LEAVE:
                case ENTER:
                    return NONE;
                case SWAP:
                    return isLetterAt(at + 2) ? NONE : at + 2;
                default:
                    return at + 1;
            }
        }

        int lengthAt(int at) {
            switch (deedAt(at)) {
                case WAIT: return 1;
                case SWAP: return 3;
                default: return 2;
            }
        }

        int deedAt(int at) {
            return signAt(at) == WAIT ? WAIT : signAt(at + 1);
        }

        int runnerAt(int at) {
            return signAt(at) - 'a';
        }

        int otherAt(int at) {
            return signAt(at + 2) - 'a';
        }
    }

    /** Acts played on a copy of the cup. */
    private static final class Rehearsal {
        private final Cup cup = new Cup();
        private int acts = 0;
        private int stoppedAct = NONE;
        private int stoppedWhy = NONE;

        Cup cup() {
            return cup;
        }

        int acts() {
            return acts;
        }

        int stoppedAct() {
            return stoppedAct;
        }

        int stoppedWhy() {
            return stoppedWhy;
        }

        private void begin(Cup from) {
            cup.copy(from);
            cup.tally().clear();
            acts = 0;
            stoppedAct = NONE;
            stoppedWhy = NONE;
        }

        /** Plays the text up to the first act that can not be; whether all of it stands. */
        boolean play(Cup from, Pad pad) {
            begin(from);
            if (pad.firstFault() != NONE) {
                return false;
            }
            int at = 0;
            for (int act = 0; act < Pad.SIGNS_MOST && at < pad.length(); act++) {
                int deed = pad.deedAt(at);
                int why = cup.hindrance(deed, pad.runnerAt(at), pad.otherAt(at));
                if (why != CAN_BE) {
                    stoppedAct = act;
                    stoppedWhy = why;
                    return false;
                }
                cup.perform(act, deed, pad.runnerAt(at), pad.otherAt(at));
                acts++;
                at += pad.lengthAt(at);
            }
            return true;
        }

        void draw(Cup from, int seed, int draws) {
            begin(from);
            int x = seed;
            for (int act = 0; act < draws && x >= 0; act++) {
                x = (75 * x + 74) % 65537;
                int deed = DEED_BY_DRAW.charAt(x / 8 & 7);
                int runner = x & 7;
                int other = x / 64 & 7;
                if (cup.hindrance(deed, runner, other) == CAN_BE) {
                    cup.perform(act, deed, runner, other);
                }
            }
        }
    }

    /** Where the unknown line was seen. */
    private static final class Sights {
        private static final int SIGHTS_MOST = 8;
        private static final int TIME_MOST = 9;
        private static final int KEY_MOST = 99;

        private final int[] time = new int[SIGHTS_MOST];
        private final int[] key = new int[SIGHTS_MOST];
        private final boolean[] atLeast = new boolean[SIGHTS_MOST];
        private int size = 0;

        void copy(Sights from) {
            System.arraycopy(from.time, 0, time, 0, SIGHTS_MOST);
            System.arraycopy(from.key, 0, key, 0, SIGHTS_MOST);
            for (int i = 0; i < SIGHTS_MOST; i++) {
                atLeast[i] = from.atLeast[i];
            }
            size = from.size;
        }

        int size() {
            return size;
        }

        void clear() {
            size = 0;
        }

        boolean add(int t, int v, boolean least) {
            if (size < 0 || size >= SIGHTS_MOST) {
                return false;
            }
            time[size] = t;
            key[size] = v;
            atLeast[size] = least;
            size++;
            return true;
        }

        boolean allow(int base, int slope) {
            for (int i = 0; i < size && i < SIGHTS_MOST; i++) {
                if (base + slope * time[i] >= key[i] != atLeast[i]) {
                    return false;
                }
            }
            return true;
        }
    }

    /** The lines that fit the sights, and where to look next. */
    private static final class Search {
        private static final int BASE_END = 30;
        private static final int SLOPE_END = 9;
        private static final int LINES_MOST = (BASE_END + 1) * (2 * SLOPE_END + 1);
        private static final int BASE_UNIT = 100;
        private static final int SLOPE_ZERO = 50;
        private static final int TIME_UNIT = 1000;
        private static final int KEY_ZERO = 500;

        private final int[] codes = new int[LINES_MOST];
        private final int[] linesAtKey = new int[2 * Sights.KEY_MOST + 1];
        private int size = 0;
        private int look = NONE;
        private int left = NONE;

        int size() {
            return size;
        }

        int codeOf(int i) {
            return i >= 0 && i < size && i < LINES_MOST ? codes[i] : NONE;
        }

        int look() {
            return look;
        }

        int left() {
            return left;
        }

        void gather(Sights sights) {
            size = 0;
            for (int base = 0; base <= BASE_END; base++) {
                for (int slope = -SLOPE_END; slope <= SLOPE_END; slope++) {
                    if (sights.allow(base, slope) && size < LINES_MOST) {
                        codes[size] = BASE_UNIT * base + slope + SLOPE_ZERO;
                        size++;
                    }
                }
            }
        }

        void weigh() {
            look = NONE;
            left = NONE;
            for (int t = 0; t <= Sights.TIME_MOST && size > 0; t++) {
                countAt(t);
                int atLeast = size;
                for (int i = 0; i < linesAtKey.length; i++) {
                    int worst = Math.max(atLeast, size - atLeast);
                    if (left == NONE || worst < left) {
                        left = worst;
                        look = TIME_UNIT * t + i - Sights.KEY_MOST + KEY_ZERO;
                    }
                    atLeast -= linesAtKey[i];
                }
            }
        }

        /** A key past the greatest that is asked for counts as that one: it is as much at least. */
        private void countAt(int t) {
            Arrays.fill(linesAtKey, 0);
            for (int i = 0; i < size && i < LINES_MOST; i++) {
                int base = codes[i] / BASE_UNIT;
                int slope = codes[i] % BASE_UNIT - SLOPE_ZERO;
                int key = Math.min(base + slope * t, Sights.KEY_MOST);
                int at = Math.max(key, -Sights.KEY_MOST) + Sights.KEY_MOST;
                linesAtKey[at]++;
            }
        }
    }

    /** All but the pad, as it was when it was kept. */
    private static final class Image {
        private final Cup cup = new Cup();
        private final Sights sights = new Sights();
        private boolean kept = false;

        void keep(Cup fromCup, Sights fromSights) {
            cup.copy(fromCup);
            sights.copy(fromSights);
            kept = true;
        }

        boolean giveBack(Cup toCup, Sights toSights) {
            if (kept) {
                toCup.copy(cup);
                toSights.copy(sights);
            }
            return kept;
        }
    }

    /**
     * Single and double numbers nearest to fractions, by whole numbers. A value is less than 2 to
     * the 21 and, but for 0, a hundredth at least, so each single number is a whole number of
     * units of 2 to the -30, and so is each sum of them.
     */
    private static final class Nearest {
        private static final int UNIT_SHIFT = 30;
        private static final long ONE = 1L << UNIT_SHIFT;
        private static final int SINGLE_WIDTH = 24;
        private static final int SINGLE_BIAS = 127;
        private static final int DOUBLE_WIDTH = 53;
        private static final int DOUBLE_BIAS = 1023;

        /** The nearest single number, in units. */
        static long single(long upper, long lower) {
            if (upper == 0 || lower <= 0) {
                return 0;
            }
            long size = Math.abs(upper);
            int shift = shiftFor(size, lower, SINGLE_WIDTH);
            long mantissa = nearestWhole(size << shift, lower);
            long units = shift <= UNIT_SHIFT
                    ? mantissa << UNIT_SHIFT - shift
                    : mantissa >> shift - UNIT_SHIFT;
            return upper < 0 ? -units : units;
        }

        static long singleBits(long upper, long lower) {
            int size = (int) sizeBits(upper, lower, SINGLE_WIDTH, SINGLE_BIAS);
            return upper < 0 ? size | Integer.MIN_VALUE : size;
        }

        static long doubleBits(long upper, long lower) {
            long size = sizeBits(upper, lower, DOUBLE_WIDTH, DOUBLE_BIAS);
            return upper < 0 ? size | Long.MIN_VALUE : size;
        }

        /** A mantissa that is rounded up to one bit more carries into the exponent, as it should. */
        private static long sizeBits(long upper, long lower, int width, int bias) {
            if (upper == 0 || lower <= 0) {
                return 0;
            }
            long size = Math.abs(upper);
            int shift = shiftFor(size, lower, width);
            long mantissa = nearestWhole(size << shift, lower);
            long exponent = width - 1 - shift + bias;
            return (exponent << width - 1) + mantissa - (1L << width - 1);
        }

        /** By how many bits the fraction is raised so that its whole part has that width. */
        private static int shiftFor(long size, long lower, int width) {
            int shift = 0;
            while (shift < 62 && size << shift < lower << width - 1) {
                shift++;
            }
            return shift;
        }

        private static long nearestWhole(long upper, long lower) {
            if (lower <= 0) {
                return 0;
            }
            long whole = upper / lower;
            long twice = 2 * (upper % lower);
            boolean up = twice > lower || twice == lower && whole % 2 == 1;
            return up ? whole + 1 : whole;
        }
    }
}
