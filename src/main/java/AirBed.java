import java.util.NoSuchElementException;

/** A mattress that goes down as fast as it is blown up; see README.md. */
public final class AirBed {
    public static final int NONE = -1;

    private static final int CANNOT = -2;
    private static final int BY_PUMP = -2;
    private static final long ERROR = Long.MIN_VALUE;

    private static final int TAPE_MOST = 700;
    private static final int BLOWERS_MOST = 4;
    private static final int TURNS_MOST = 8;
    private static final int LEAKS_MOST = 6;
    private static final int TRIALS_MOST = 3;
    private static final int KNOTS_MOST = 64;
    private static final int CHEEKS_MOST = 24;
    private static final int UNDO_MOST = 20;
    private static final int LOOKS_MOST = 3;
    private static final int CALLED_SECONDS_MOST = 99999;
    private static final int HOUR = 3600;
    private static final int BOUND_MOST = 9999;

    private static final int LOSE = 0;
    private static final int FILL = 1;
    private static final int LOAD = 2;

    private static final int NAME_LOAD = 0;
    private static final int NAME_FULL = 1;
    private static final int NAME_ROOM = 2;
    private static final int NAME_OPEN = 3;
    private static final int NAME_SECOND = 4;
    private static final int NAME_BREATH = 5;

    private static final int OP_NUMBER = 0;
    private static final int OP_NAME = 1;
    private static final int OP_OPEN = 2;
    private static final int OP_OR = 3;
    private static final int OP_AND = 4;
    private static final int OP_NOT = 5;
    private static final int OP_LESS = 6;
    private static final int OP_AT_MOST = 7;
    private static final int OP_SAME = 8;
    private static final int OP_OTHER = 9;
    private static final int OP_AT_LEAST = 10;
    private static final int OP_MORE = 11;
    private static final int OP_PLUS = 12;
    private static final int OP_MINUS = 13;
    private static final int OP_TIMES = 14;
    private static final int OP_BY = 15;

    private final int[] tape = new int[TAPE_MOST];
    private int taped;
    private Plan plan = new Plan();
    private Plan draft = new Plan();
    private final Reader reader = new Reader(draft);
    private final State now = new State();
    private final State start = new State();
    private final State image = new State();
    private boolean imaged;
    private final History history = new History();
    private final Cheeks cheeks = new Cheeks();
    private final Sim sim = new Sim(plan);
    private final Sim other = new Sim(plan);
    private final Rules rules = new Rules(sim);
    private final Best bestTurns = new Best(sim, other);
    private final Search search = new Search();

    public AirBed() {
        now.begin(plan);
    }

    public int feed(int a, int b, int c, int d, int e) {
        if (taped > TAPE_MOST - 20) {
            return NONE;
        }
        putFour(a);
        putFour(b);
        putFour(c);
        putFour(d);
        putFour(e);
        return taped;
    }

    private void putFour(int number) {
        for (int shift = 24; shift >= 0 && taped < TAPE_MOST; shift -= 8) {
            tape[taped] = number >>> shift & 255;
            taped++;
        }
    }

    public int text(int n) {
        if (n < 0 || n > taped) {
            return CANNOT;
        }
        taped = 0;
        if (!reader.read(tape, n, draft)) {
            return NONE;
        }
        Plan told = draft;
        draft = plan;
        plan = told;
        now.begin(plan);
        history.clear();
        cheeks.clear();
        imaged = false;
        return reader.lines;
    }

    public int fault(int what) {
        if (what == 0) {
            return reader.fault;
        }
        return what == 1 ? reader.faultAt : NONE;
    }

    public int named(int what, int letters) {
        if (what == 0) {
            return plan.blowerNamed(letters);
        }
        return what == 1 ? plan.trialNamed(letters) : NONE;
    }

    public int look(int blower, int what) throws IndexOutOfBoundsException, NoSuchElementException {
        if (!isBlower(blower)) {
            throw new IndexOutOfBoundsException("no such blower");
        }
        sim.begin(plan, now);
        switch (what) {
            case 0:
                return sim.nextBreath(blower);
            case 1:
                return sim.since(blower);
            case 2:
                return now.all[blower];
            case 3:
                return sim.isDizzy(blower) ? 1 : 0;
            case 4:
                return sim.restLeft(blower);
            default:
                throw new NoSuchElementException("no such what");
        }
    }

    private boolean isBlower(int blower) {
        return blower >= 0 && blower < plan.blowers;
    }

    private static boolean isWithin(int number, int least, int most) {
        return number >= least && number <= most;
    }

    public long law(int what, int number) {
        boolean some = what == LOSE && isWithin(number, 0, 1)
                || what == FILL && isWithin(number, 0, 999)
                || what == LOAD;
        if (!some) {
            return ERROR;
        }
        sim.begin(plan, now);
        return sim.worth(what, what == LOSE ? number : 0, what == FILL ? number : 0);
    }

    public int blow(int blower, int n) {
        if (!isBlower(blower) || !isWithin(n, 1, 20)) {
            return NONE;
        }
        sim.begin(plan, now);
        if (sim.wouldBeDizzy(blower, n)) {
            return CANNOT;
        }
        int takes = sim.handsOf(blower) + n * plan.blower[blower].takes;
        if (takes > CALLED_SECONDS_MOST - now.seconds) {
            return NONE;
        }
        sim.handOver(blower);
        for (int i = 0; i < n; i++) {
            sim.breathe(blower);
        }
        return settle();
    }

    /** What was tried becomes so, and can be undone. */
    private int settle() {
        history.push(now);
        now.copy(sim.state);
        return now.full;
    }

    public int waits(int n, boolean open) {
        if (!isWithin(n, 1, 999) || n > CALLED_SECONDS_MOST - now.seconds) {
            return NONE;
        }
        sim.begin(plan, now);
        sim.goBy(n, open);
        return settle();
    }

    public int pump(int n) {
        if (plan.pumpLent == 0 || n < 1) {
            return NONE;
        }
        if (n > now.left) {
            return CANNOT;
        }
        if (n > CALLED_SECONDS_MOST - now.seconds) {
            return NONE;
        }
        sim.begin(plan, now);
        sim.pumping = true;
        sim.goBy(n, false);
        sim.state.left -= n;
        sim.state.last = BY_PUMP;
        return settle();
    }

    public int patch(int leak) {
        if (leak < 0 || leak >= plan.leaks || now.isPatched(leak)) {
            return NONE;
        }
        history.push(now);
        now.patched |= 1 << leak;
        return leak == plan.real ? 1 : 0;
    }

    public int leak() {
        return plan.real;
    }

    public int ever(int what) {
        if (plan.turns == 0 || !isWithin(what, 0, 3)) {
            return NONE;
        }
        int seconds = rules.secondsBy(0, plan, now);
        switch (what) {
            case 0:
                return seconds == CANNOT ? 0 : 1;
            case 1:
                return seconds == CANNOT ? NONE : seconds;
            case 2:
                return rules.most;
            default:
                return rules.whole;
        }
    }

    public int best(int n, int what) {
        if (!isWithin(n, 1, 2) || what < 0 || plan.blowers == 0) {
            return NONE;
        }
        if (what >= 2 + 2 * n) {
            return CANNOT;
        }
        return bestTurns.find(n, plan, now) ? bestTurns.row[what] : CANNOT;
    }

    public int lasts(int from, int bound) {
        if (!isWithin(from, 0, plan.holds) || !isWithin(bound, 0, BOUND_MOST)) {
            return NONE;
        }
        return secondsAbove(from, bound, HOUR);
    }

    private int secondsAbove(int from, int bound, int most) {
        sim.begin(plan, now);
        sim.state.full = from;
        int gone = 0;
        while (gone < most && sim.state.full >= bound) {
            sim.goBy(1, false);
            gone++;
        }
        return gone;
    }

    public int firm(int seconds, int bound) {
        if (!isWithin(seconds, 0, 60) || !isWithin(bound, 0, BOUND_MOST)) {
            return NONE;
        }
        for (int full = 0; full <= plan.holds; full++) {
            if (secondsAbove(full, bound, seconds) >= seconds) {
                return full;
            }
        }
        return CANNOT;
    }

    public int up(int blower, int n, int bound) {
        if (!isBlower(blower) || !isNight(n, bound)) {
            return NONE;
        }
        return timesUp(blower, n, bound, NONE);
    }

    public int upAt(int blower, int n, int bound, int k) {
        if (!isBlower(blower) || !isNight(n, bound) || k < 0) {
            return NONE;
        }
        return timesUp(blower, n, bound, k);
    }

    private static boolean isNight(int n, int bound) {
        return isWithin(n, 1, HOUR) && isWithin(bound, 0, BOUND_MOST);
    }

    /** How often one gets up (k is NONE), or the SECOND in which the k-th time begins. */
    private int timesUp(int blower, int n, int bound, int k) {
        if (now.full < bound) {
            return CANNOT;
        }
        sim.begin(plan, now);
        int times = 0;
        int at = CANNOT;
        int gone = 0;
        // a step takes a SECOND at least
        for (int i = 0; i < n && gone < n; i++) {
            if (mustRise(blower, n - gone, bound)) {
                at = times == k ? gone : at;
                times++;
                sim.getUp(blower, plan.blower[blower].times);
            } else {
                sim.goBy(1, false);
            }
            if (sim.least < bound) {
                return CANNOT;
            }
            gone = sim.state.seconds - now.seconds;
        }
        return k == NONE ? times : at;
    }

    /** Whether waiting a SECOND more, of those that are left, would be too late. */
    private boolean mustRise(int blower, int left, int bound) {
        other.begin(plan, sim.state);
        other.goBy(1, false);
        if (other.state.full < bound) {
            return true;
        }
        if (left <= 1) {
            return false;
        }
        other.getUp(blower, plan.blower[blower].times);
        return other.least < bound;
    }

    public int cheapest(int n, int bound, int what) {
        if (!isNight(n, bound) || !isWithin(what, 0, 1)) {
            return NONE;
        }
        int found = CANNOT;
        int least = CANNOT;
        for (int b = 0; b < plan.blowers; b++) {
            int times = timesUp(b, n, bound, NONE);
            int cost = times * plan.blower[b].cost;
            if (times != CANNOT && (found == CANNOT || cost < least)) {
                found = b;
                least = cost;
            }
        }
        return what == 0 ? found : least;
    }

    public int lend(int n, int what) {
        if (!isWithin(n, 1, 600) || !isWithin(what, 0, 1) || plan.pumpLent == 0 || n < now.left) {
            return NONE;
        }
        int from = 0;
        int greatest = NONE;
        other.begin(plan, now);
        for (int at = 0; at + now.left <= n; at++) {
            sim.begin(plan, other.state);
            sim.pumping = true;
            sim.goBy(now.left, false);
            sim.pumping = false;
            sim.goBy(n - at - now.left, false);
            if (sim.state.full > greatest) {
                from = at;
                greatest = sim.state.full;
            }
            other.goBy(1, false);
        }
        return what == 0 ? from : greatest;
    }

    public int seek(int k, int what) {
        if (k < 0 || !isWithin(what, 0, 1)) {
            return NONE;
        }
        if (!search.reach(k, plan, now)) {
            return CANNOT;
        }
        return what == 0 ? search.leak : search.trial;
    }

    public int mean(int what) {
        int each = plan.surestTrialSeconds();
        if (!isWithin(what, 0, 1) || plan.leaks == 0 || each == NONE) {
            return NONE;
        }
        int above = 0;
        int below = 0;
        for (int i = 0; i < plan.leaks; i++) {
            above += each * plan.placeByWeight(i) * plan.weight[i];
            below += plan.weight[i];
        }
        int common = commonDivisor(above, below);
        if (common == 0) {
            return NONE;
        }
        return what == 0 ? above / common : below / common;
    }

    private static int commonDivisor(int a, int b) {
        int greater = a;
        int lesser = b;
        for (int i = 0; i < 64 && lesser != 0; i++) {
            int rest = greater % lesser;
            greater = lesser;
            lesser = rest;
        }
        return greater;
    }

    public int rule(int rule) {
        if (!isRule(rule)) {
            return NONE;
        }
        return rules.secondsBy(rule, plan, now);
    }

    private boolean isRule(int rule) {
        return rule == 0 ? plan.turns > 0 : isWithin(rule, 1, 3) && plan.blowers > 0;
    }

    public int fairest() {
        if (plan.blowers == 0) {
            return NONE;
        }
        int found = CANNOT;
        int fewest = CANNOT;
        for (int rule = 0; rule <= 3; rule++) {
            int seconds = isRule(rule) ? rules.secondsBy(rule, plan, now) : CANNOT;
            if (seconds != CANNOT && (found == CANNOT || seconds < fewest)) {
                found = rule;
                fewest = seconds;
            }
        }
        return found;
    }

    public int cheek(int blower, int n, int full, boolean atLeast) {
        if (!isBlower(blower) || !isWithin(n, 1, 20) || !isWithin(full, 0, BOUND_MOST)) {
            return NONE;
        }
        if (n > plan.blower[blower].times) {
            return NONE;
        }
        return cheeks.add(atLeast ? Cheeks.AT_LEAST : Cheeks.LESS, blower, n, full);
    }

    public int strike(int cheek) {
        if (cheek < 0 || cheek >= cheeks.size) {
            return NONE;
        }
        return cheeks.add(Cheeks.STRIKE, cheek, 0, 0);
    }

    public boolean known(int n) {
        if (n < -1 || n > cheeks.size) {
            return false;
        }
        cheeks.known = n;
        return true;
    }

    public int fits() {
        cheeks.markStruck();
        start.begin(plan);
        int bits = 0;
        for (int i = 0; i <= plan.leaks; i++) {
            if (fitsLeak(i < plan.leaks ? i : NONE)) {
                bits |= 1 << i;
            }
        }
        return bits;
    }

    private boolean fitsLeak(int leak) {
        int known = cheeks.knownBy();
        for (int i = 0; i < known; i++) {
            if (cheeks.isSeen(i) && !wouldBeSeen(i, leak)) {
                return false;
            }
        }
        return true;
    }

    private boolean wouldBeSeen(int cheek, int leak) {
        sim.begin(plan, start);
        sim.real = leak;
        sim.getUp(cheeks.about[cheek], cheeks.breaths[cheek]);
        boolean atLeast = sim.state.full >= cheeks.full[cheek];
        return atLeast == (cheeks.kind[cheek] == Cheeks.AT_LEAST);
    }

    public int chance(int seed, int n, int bound) {
        if (seed < 0 || !isWithin(n, 1, 600) || !isWithin(bound, 0, BOUND_MOST)) {
            return NONE;
        }
        long drawn = seed;
        int times = 0;
        for (int i = 0; i < 10; i++) {
            sim.begin(plan, now);
            for (int second = 0; second < n; second++) {
                drawn = drawAfter(drawn);
                sim.goBy(1, numberOf(drawn) % 1000 < plan.slip);
            }
            if (sim.state.full >= bound) {
                times++;
            }
        }
        return times;
    }

    private static long drawAfter(long drawn) {
        return drawn * 1103515245L + 12345L & 0x7fffffffL;
    }

    private static int numberOf(long drawn) {
        return (int) (drawn / 65536L);
    }

    public int tried(int what, int i, int n) {
        if (!isWithin(what, 0, 4) || !isWithin(n, 0, HOUR)) {
            return NONE;
        }
        boolean some = what == 4 ? i >= 0 && i < plan.leaks : i == 0;
        if (!some || what == 3 && plan.pumpLent == 0) {
            return NONE;
        }
        sim.begin(plan, now);
        if (what == 0) {
            sim.real = NONE;
        } else if (what == 4) {
            sim.real = i;
        }
        sim.unloaded = what == 2;
        sim.pumping = what == 3;
        sim.goBy(n, what == 1);
        return sim.state.full;
    }

    public int undo() {
        return history.pop(now) ? history.size : NONE;
    }

    public int keep() {
        image.copy(now);
        imaged = true;
        return now.seconds;
    }

    public int back() {
        if (!imaged) {
            return NONE;
        }
        now.copy(image);
        history.clear();
        return now.seconds;
    }

    public int count(int what) {
        switch (what) {
            case 0:
                return plan.holds;
            case 1:
                return now.full;
            case 2:
                return plan.blowers;
            case 3:
                return plan.turns;
            case 4:
                return plan.leaks;
            case 5:
                return plan.trials;
            case 6:
                return plan.laws.knots;
            case 7:
                return now.seconds;
            case 8:
                return now.left;
            case 9:
                return now.last >= 0 ? now.last : NONE;
            case 10:
                return now.patched;
            case 11:
                return cheeks.size;
            case 12:
                return cheeks.knownBy();
            case 13:
                return history.size;
            default:
                return NONE;
        }
    }

    private static final class Blower {
        int letters;
        int breath;
        int less;
        int times;
        int takes;
        int rests;
        int hands;
        int cost;

        int breathBehind(int done) {
            int left = breath - less * done;
            return left > 0 ? left : 0;
        }
    }

    /** What a TEXT tells: nothing of it changes till the next one. */
    private static final class Plan {
        int holds;
        int first;
        int blowers;
        final Blower[] blower = new Blower[BLOWERS_MOST];
        int turns;
        final int[] turnBlower = new int[TURNS_MOST];
        final int[] turnBreaths = new int[TURNS_MOST];
        int pumpFills;
        int pumpLent;
        int leaks;
        final int[] weight = new int[LEAKS_MOST];
        final int[] loses = new int[LEAKS_MOST];
        int trials;
        final int[] trialLetters = new int[TRIALS_MOST];
        final int[] finds = new int[TRIALS_MOST];
        final int[] trialSeconds = new int[TRIALS_MOST];
        int slip;
        int seed;
        int real;
        final Laws laws = new Laws();

        Plan() {
            for (int b = 0; b < BLOWERS_MOST; b++) {
                blower[b] = new Blower();
            }
            clear();
        }

        void clear() {
            holds = 500;
            first = 0;
            blowers = 0;
            turns = 0;
            pumpFills = 0;
            pumpLent = 0;
            leaks = 0;
            trials = 0;
            slip = 0;
            seed = 0;
            real = NONE;
            laws.clear();
        }

        int blowerNamed(int letters) {
            for (int b = 0; b < blowers; b++) {
                if (blower[b].letters == letters) {
                    return b;
                }
            }
            return NONE;
        }

        int trialNamed(int letters) {
            for (int i = 0; i < trials; i++) {
                if (trialLetters[i] == letters) {
                    return i;
                }
            }
            return NONE;
        }

        void drawLeak() {
            int sum = 0;
            for (int i = 0; i < leaks; i++) {
                sum += weight[i];
            }
            real = NONE;
            if (sum == 0) {
                return;
            }
            int left = numberOf(drawAfter(seed)) % sum;
            for (int i = 0; i < leaks && real == NONE; i++) {
                left -= weight[i];
                if (left < 0) {
                    real = i;
                }
            }
        }

        int surestTrialSeconds() {
            int fewest = NONE;
            for (int i = 0; i < trials; i++) {
                if (finds[i] == 100 && (fewest == NONE || trialSeconds[i] < fewest)) {
                    fewest = trialSeconds[i];
                }
            }
            return fewest;
        }

        /** From 1 on, the greatest WEIGHT first. */
        int placeByWeight(int leak) {
            int place = 1;
            for (int i = 0; i < leaks; i++) {
                if (weight[i] > weight[leak] || weight[i] == weight[leak] && i < leak) {
                    place++;
                }
            }
            return place;
        }
    }

    /** The three laws, each as a row of KNOTS with the signs behind what they join. */
    private static final class Laws {
        private static final long VALUE_MOST = 1000000000000L;

        int knots;
        private int length;
        private final int[] ops = new int[KNOTS_MOST];
        private final int[] values = new int[KNOTS_MOST];
        private final int[] from = new int[3];
        private final int[] to = new int[3];
        private final boolean[] asksLoad = new boolean[3];
        private final long[] names = new long[6];
        private final long[] stack = new long[KNOTS_MOST];

        void clear() {
            knots = 0;
            length = 0;
            for (int kind = LOSE; kind <= LOAD; kind++) {
                from[kind] = 0;
                to[kind] = 0;
                asksLoad[kind] = false;
            }
        }

        void begin(int kind) {
            from[kind] = length;
        }

        void end(int kind) {
            to[kind] = length;
            for (int i = from[kind]; i < length; i++) {
                if (ops[i] == OP_NAME && values[i] == NAME_LOAD) {
                    asksLoad[kind] = true;
                }
            }
        }

        void put(int op, int value) {
            if (length < KNOTS_MOST) {
                ops[length] = op;
                values[length] = value;
                length++;
            }
        }

        /** A law that isn't told is an empty row, and answers as an ERROR does. */
        long valueOf(int kind) {
            int top = 0;
            for (int i = from[kind]; i < to[kind]; i++) {
                int op = ops[i];
                if (op == OP_NUMBER || op == OP_NAME) {
                    if (top >= KNOTS_MOST) {
                        return ERROR;
                    }
                    stack[top] = op == OP_NUMBER ? values[i] : names[values[i]];
                    top++;
                } else if (op == OP_NOT) {
                    if (top < 1) {
                        return ERROR;
                    }
                    stack[top - 1] = stack[top - 1] == 0 ? 1 : 0;
                } else {
                    if (top < 2) {
                        return ERROR;
                    }
                    top--;
                    long joined = join(op, stack[top - 1], stack[top]);
                    if (joined > VALUE_MOST || joined < -VALUE_MOST) {
                        return ERROR;
                    }
                    stack[top - 1] = joined;
                }
            }
            return top == 1 ? stack[0] : ERROR;
        }

        private static long join(int op, long a, long b) {
            switch (op) {
                case OP_PLUS:
                    return a + b;
                case OP_MINUS:
                    return a - b;
                case OP_TIMES:
                    // asked by a division, as the product may be more than a long holds
                    long most = a == 0 ? VALUE_MOST : VALUE_MOST / (a < 0 ? -a : a);
                    return b > most || b < -most ? ERROR : a * b;
                case OP_BY:
                    return b == 0 ? ERROR : a / b;
                case OP_OR:
                    return a != 0 || b != 0 ? 1 : 0;
                case OP_AND:
                    return a != 0 && b != 0 ? 1 : 0;
                case OP_LESS:
                    return a < b ? 1 : 0;
                case OP_AT_MOST:
                    return a <= b ? 1 : 0;
                case OP_SAME:
                    return a == b ? 1 : 0;
                case OP_OTHER:
                    return a != b ? 1 : 0;
                case OP_AT_LEAST:
                    return a >= b ? 1 : 0;
                default:
                    return a > b ? 1 : 0;
            }
        }
    }

    /** Reads a TEXT TOKEN by TOKEN into a Plan, up to the first FAULT. */
    private static final class Reader {
        private static final String WORDS = "bed   blowerturn  pump  leak  trial slip  seed  law   lose  fill  load  full  room  open  secondbreathor    and   not   ";
        private static final int LETTERS_MOST = 6;
        private static final int BED = 0;
        private static final int BLOWER = 1;
        private static final int TURN = 2;
        private static final int PUMP = 3;
        private static final int LEAK = 4;
        private static final int TRIAL = 5;
        private static final int SLIP = 6;
        private static final int SEED = 7;
        private static final int LAW = 8;
        private static final int FIRST_KIND = 9;
        private static final int FIRST_NAME = 11;
        private static final int FIRST_SIGN = 17;
        private static final int WORDS_ALL = 20;

        private static final int END = 0;
        private static final int BAD = 1;
        private static final int WORD = 2;
        private static final int OWN_WORD = 3;
        private static final int NUMBER = 4;
        private static final int MARK = 5;
        private static final int SIGN = 6;

        private static final int WANTS_ANY = 0;
        private static final int WANTS_VALUE = 1;
        private static final int WANTS_SIGN = 2;
        private static final int WANTS_NO_MORE = 3;

        private static final int OPEN_MOST = 8;
        private static final int NUMBER_TOO_GREAT = 1000000;

        int lines;
        int fault;
        int faultAt = NONE;
        private final int[] words = new int[WORDS_ALL];
        private int[] tape = new int[0];
        private int length;
        private Plan plan;
        private int told;
        private int next;
        private int at;
        private int kind;
        private int value;
        private final int[] pending = new int[KNOTS_MOST + OPEN_MOST];
        private int pendings;
        private int opened;

        Reader(Plan first) {
            plan = first;
            for (int i = 0; i < WORDS_ALL; i++) {
                for (int k = 0; k < LETTERS_MOST; k++) {
                    char sign = WORDS.charAt(i * LETTERS_MOST + k);
                    words[i] = words[i] << 5 | (sign == ' ' ? 0 : sign - 'a' + 1);
                }
            }
        }

        boolean read(int[] bytes, int n, Plan into) {
            tape = bytes;
            length = n;
            plan = into;
            plan.clear();
            told = 0;
            lines = 0;
            fault = 0;
            faultAt = NONE;
            next = 0;
            advance();
            // a LINE takes some bytes, so there are never more of them than bytes
            for (int i = 0; i < length && fault == 0 && kind != END; i++) {
                readLine();
                readEnd();
            }
            if (fault == 0) {
                plan.drawLeak();
            }
            return fault == 0;
        }

        private void fail(int what) {
            if (fault == 0) {
                fault = what;
                faultAt = at;
            }
        }

        private void advance() {
            while (next < length && (tape[next] == ' ' || tape[next] == '\n')) {
                next++;
            }
            at = next;
            if (next >= length) {
                kind = END;
            } else if (isLetter(tape[next])) {
                advanceWord();
            } else if (isDigit(tape[next])) {
                advanceNumber();
            } else {
                advanceSign();
            }
        }

        private static boolean isLetter(int sign) {
            return sign >= 'a' && sign <= 'z';
        }

        private static boolean isDigit(int sign) {
            return sign >= '0' && sign <= '9';
        }

        private void advanceWord() {
            int letters = 0;
            while (next < length && isLetter(tape[next])) {
                int shift = 5 * (LETTERS_MOST - 1 - (next - at));
                if (shift >= 0) {
                    letters |= tape[next] - 'a' + 1 << shift;
                }
                next++;
            }
            kind = next - at > LETTERS_MOST ? BAD : OWN_WORD;
            value = letters;
            for (int i = 0; i < WORDS_ALL && kind == OWN_WORD; i++) {
                if (words[i] == letters) {
                    kind = i < FIRST_SIGN ? WORD : SIGN;
                    value = i < FIRST_SIGN ? i : OP_OR + i - FIRST_SIGN;
                }
            }
        }

        private void advanceNumber() {
            kind = NUMBER;
            value = 0;
            while (next < length && isDigit(tape[next])) {
                value = Math.min(value * 10 + tape[next] - '0', NUMBER_TOO_GREAT);
                next++;
            }
        }

        private void advanceSign() {
            int sign = tape[next];
            next++;
            kind = SIGN;
            switch (sign) {
                case '<':
                    value = follows('=') ? OP_AT_MOST : follows('>') ? OP_OTHER : OP_LESS;
                    break;
                case '>':
                    value = follows('=') ? OP_AT_LEAST : OP_MORE;
                    break;
                case '=':
                    value = OP_SAME;
                    break;
                case '+':
                    value = OP_PLUS;
                    break;
                case '-':
                    value = OP_MINUS;
                    break;
                case '*':
                    value = OP_TIMES;
                    break;
                case '/':
                    value = OP_BY;
                    break;
                default:
                    kind = sign == ';' || sign == '(' || sign == ')' ? MARK : BAD;
                    value = sign;
                    break;
            }
        }

        private boolean follows(char sign) {
            if (next >= length || tape[next] != sign) {
                return false;
            }
            next++;
            return true;
        }

        private boolean isMark(char sign) {
            return kind == MARK && value == sign;
        }

        private void readEnd() {
            if (!isMark(';')) {
                fail(1);
            }
            if (fault == 0) {
                advance();
                lines++;
            }
        }

        private void readLine() {
            switch (kind == WORD ? value : NONE) {
                case BED:
                    readBed();
                    break;
                case BLOWER:
                    readBlower();
                    break;
                case TURN:
                    readTurn();
                    break;
                case PUMP:
                    readPump();
                    break;
                case LEAK:
                    readLeak();
                    break;
                case TRIAL:
                    readTrial();
                    break;
                case SLIP:
                    readSlip();
                    break;
                case SEED:
                    readSeed();
                    break;
                case LAW:
                    readLaw();
                    break;
                default:
                    fail(1);
                    break;
            }
        }

        /** Goes behind the word of a LINE that is told once. */
        private void tellOnce(int word) {
            if ((told >> word & 1) != 0) {
                fail(3);
            }
            told |= 1 << word;
            advance();
        }

        /** Goes behind the word of a LINE of which there are some already. */
        private boolean tellOneMore(int some, int most) {
            if (some >= most) {
                fail(2);
            }
            advance();
            return fault == 0;
        }

        private int readNumber(int least, int most) {
            if (fault != 0) {
                return least;
            }
            int number = value;
            if (kind != NUMBER) {
                fail(1);
            } else if (number < least || number > most) {
                fail(2);
            }
            if (fault != 0) {
                return least;
            }
            advance();
            return number;
        }

        private boolean isOwnWord() {
            if (kind != OWN_WORD) {
                fail(1);
            }
            return fault == 0;
        }

        private void readBed() {
            tellOnce(BED);
            plan.holds = readNumber(1, 9999);
            if (fault == 0 && kind == NUMBER) {
                plan.first = readNumber(0, plan.holds);
            }
        }

        private void readBlower() {
            if (!tellOneMore(plan.blowers, BLOWERS_MOST) || !isOwnWord()) {
                return;
            }
            if (plan.blowerNamed(value) != NONE) {
                fail(3);
                return;
            }
            Blower blower = plan.blower[plan.blowers];
            blower.letters = value;
            advance();
            blower.breath = readNumber(1, 99);
            blower.less = readNumber(0, 20);
            blower.times = readNumber(1, 20);
            blower.takes = readNumber(1, 9);
            blower.rests = readNumber(0, 99);
            blower.hands = readNumber(0, 9);
            blower.cost = readNumber(0, 99);
            plan.blowers++;
        }

        private void readTurn() {
            if (!tellOneMore(plan.turns, TURNS_MOST) || !isOwnWord()) {
                return;
            }
            int blower = plan.blowerNamed(value);
            if (blower == NONE) {
                fail(4);
                return;
            }
            advance();
            plan.turnBlower[plan.turns] = blower;
            plan.turnBreaths[plan.turns] = readNumber(1, 20);
            plan.turns++;
        }

        private void readPump() {
            tellOnce(PUMP);
            plan.pumpFills = readNumber(1, 99);
            plan.pumpLent = readNumber(1, 99);
        }

        private void readLeak() {
            if (!tellOneMore(plan.leaks, LEAKS_MOST)) {
                return;
            }
            plan.weight[plan.leaks] = readNumber(1, 99);
            plan.loses[plan.leaks] = readNumber(0, 99);
            plan.leaks++;
        }

        private void readTrial() {
            if (!tellOneMore(plan.trials, TRIALS_MOST) || !isOwnWord()) {
                return;
            }
            if (plan.trialNamed(value) != NONE) {
                fail(3);
                return;
            }
            plan.trialLetters[plan.trials] = value;
            advance();
            plan.finds[plan.trials] = readNumber(1, 100);
            plan.trialSeconds[plan.trials] = readNumber(1, 99);
            plan.trials++;
        }

        private void readSlip() {
            tellOnce(SLIP);
            plan.slip = readNumber(0, 999);
        }

        private void readSeed() {
            tellOnce(SEED);
            plan.seed = readNumber(0, 99999);
        }

        private void readLaw() {
            advance();
            int law = value - FIRST_KIND;
            if (kind != WORD || law < LOSE || law > LOAD) {
                fail(1);
                return;
            }
            if ((told >> value & 1) != 0) {
                fail(3);
                return;
            }
            told |= 1 << value;
            advance();
            plan.laws.begin(law);
            pendings = 0;
            opened = 0;
            int wants = WANTS_ANY;
            for (int i = 0; i <= length && fault == 0 && wants != WANTS_NO_MORE; i++) {
                wants = wants == WANTS_SIGN ? readJoin() : readValue(wants);
            }
            settleDownTo(OP_OR);
            plan.laws.end(law);
        }

        private int readValue(int wants) {
            if (kind == SIGN && value == OP_NOT && wants == WANTS_ANY) {
                countKnot();
                hold(OP_NOT);
                advance();
                return WANTS_ANY;
            }
            if (isMark('(')) {
                if (opened >= OPEN_MOST) {
                    fail(2);
                }
                opened++;
                hold(OP_OPEN);
                advance();
                return WANTS_ANY;
            }
            if (kind == NUMBER) {
                if (value > 9999) {
                    fail(2);
                }
                countKnot();
                plan.laws.put(OP_NUMBER, value);
            } else if (kind == WORD && value >= FIRST_NAME) {
                countKnot();
                plan.laws.put(OP_NAME, value - FIRST_NAME);
            } else {
                fail(1);
            }
            advance();
            return WANTS_SIGN;
        }

        private int readJoin() {
            if (isMark(')') && opened > 0) {
                settleDownTo(OP_OR);
                pendings = Math.max(pendings - 1, 0);
                opened--;
                advance();
                return WANTS_SIGN;
            }
            if (kind != SIGN || value == OP_NOT) {
                if (opened > 0) {
                    fail(1);
                }
                return WANTS_NO_MORE;
            }
            int op = value;
            if (rankOf(op) == rankOf(OP_LESS)) {
                settleDownTo(OP_PLUS);
                if (pendings > 0 && rankOf(pending[pendings - 1]) == rankOf(OP_LESS)) {
                    fail(1);
                }
            } else {
                settleDownTo(op);
            }
            countKnot();
            hold(op);
            advance();
            return op == OP_OR || op == OP_AND ? WANTS_ANY : WANTS_VALUE;
        }

        private void countKnot() {
            if (plan.laws.knots >= KNOTS_MOST) {
                fail(2);
            } else {
                plan.laws.knots++;
            }
        }

        /** Keeps a sign till what stands to its right is read. */
        private void hold(int op) {
            if (pendings < pending.length) {
                pending[pendings] = op;
                pendings++;
            }
        }

        /** Puts the signs that bind as much as this one at least, back to the last '('. */
        private void settleDownTo(int op) {
            while (pendings > 0 && rankOf(pending[pendings - 1]) >= rankOf(op)) {
                pendings--;
                plan.laws.put(pending[pendings], 0);
            }
        }

        private static int rankOf(int op) {
            if (op <= OP_NOT) {
                return op;
            }
            if (op <= OP_MORE) {
                return OP_LESS;
            }
            return op <= OP_MINUS ? OP_PLUS : OP_TIMES;
        }
    }

    /** What changes as SECONDS go by. */
    private static final class State {
        int full;
        int seconds;
        int last;
        int left;
        int patched;
        final int[] since = new int[BLOWERS_MOST];
        final int[] all = new int[BLOWERS_MOST];
        final int[] end = new int[BLOWERS_MOST];

        void begin(Plan plan) {
            full = plan.first;
            seconds = 0;
            last = NONE;
            left = plan.pumpLent;
            patched = 0;
            for (int b = 0; b < BLOWERS_MOST; b++) {
                since[b] = 0;
                all[b] = 0;
                end[b] = 0;
            }
        }

        void copy(State from) {
            full = from.full;
            seconds = from.seconds;
            last = from.last;
            left = from.left;
            patched = from.patched;
            for (int b = 0; b < BLOWERS_MOST; b++) {
                since[b] = from.since[b];
                all[b] = from.all[b];
                end[b] = from.end[b];
            }
        }

        boolean isPatched(int leak) {
            return (patched >> leak & 1) != 0;
        }
    }

    /** A State of its own that SECONDS and BREATHS move on, as it is or otherwise. */
    private static final class Sim {
        Plan plan;
        final State state = new State();
        int real;
        boolean unloaded;
        boolean pumping;
        int limit;
        int least;

        Sim(Plan first) {
            plan = first;
        }

        void begin(Plan told, State from) {
            plan = told;
            state.copy(from);
            real = told.real;
            unloaded = false;
            pumping = false;
            limit = Integer.MAX_VALUE;
            least = Integer.MAX_VALUE;
        }

        boolean isFull() {
            return state.full >= plan.holds;
        }

        boolean isOver() {
            return isFull() || state.seconds >= limit;
        }

        /** A law's E as it is now. */
        long worth(int law, int open, int breath) {
            Laws laws = plan.laws;
            laws.names[NAME_FULL] = state.full;
            laws.names[NAME_ROOM] = plan.holds - state.full;
            laws.names[NAME_OPEN] = open;
            laws.names[NAME_SECOND] = state.seconds;
            laws.names[NAME_LOAD] = 0;
            laws.names[NAME_BREATH] = 0;
            if (law != LOAD && laws.asksLoad[law] && !unloaded) {
                laws.names[NAME_LOAD] = within(laws.valueOf(LOAD), 99, 0);
            }
            laws.names[NAME_BREATH] = breath;
            return laws.valueOf(law);
        }

        private static int within(long value, int most, int without) {
            if (value == ERROR) {
                return without;
            }
            if (value < 0) {
                return 0;
            }
            return value > most ? most : (int) value;
        }

        /** Whether all n SECONDS went by ahead of the limit; FULL is looked at behind each one. */
        boolean goBy(int n, boolean open) {
            boolean leaks = real >= 0 && !state.isPatched(real);
            int more = leaks ? plan.loses[real] : 0;
            for (int i = 0; i < n; i++) {
                if (state.seconds >= limit) {
                    return false;
                }
                int without = state.full / 100 + (open ? 20 : 0);
                int lost = within(worth(LOSE, open ? 1 : 0, 0), 999, without) + more;
                state.full = Math.max(state.full - lost, 0);
                if (pumping) {
                    state.full = Math.min(state.full + plan.pumpFills, plan.holds);
                }
                state.seconds++;
                least = Math.min(least, state.full);
            }
            return true;
        }

        int since(int blower) {
            return sinceAt(blower, state.seconds);
        }

        private int sinceAt(int blower, int second) {
            boolean rested = second - state.end[blower] >= plan.blower[blower].rests;
            return rested ? 0 : state.since[blower];
        }

        int nextBreath(int blower) {
            return plan.blower[blower].breathBehind(since(blower));
        }

        boolean isDizzy(int blower) {
            return since(blower) >= plan.blower[blower].times;
        }

        int restLeft(int blower) {
            return since(blower) == 0 ? 0 : state.end[blower] + plan.blower[blower].rests - state.seconds;
        }

        /** How many SECONDS it takes till this one can blow. */
        int handsOf(int blower) {
            return state.last == NONE || state.last == blower ? 0 : plan.blower[blower].hands;
        }

        /** Whether n BREATHS one behind another are too many, asked behind the HANDS SECONDS. */
        boolean wouldBeDizzy(int blower, int n) {
            Blower who = plan.blower[blower];
            int done = sinceAt(blower, state.seconds + handsOf(blower));
            return who.rests > 0 && done + n > who.times;
        }

        boolean handOver(int blower) {
            return goBy(handsOf(blower), true);
        }

        boolean restIfDizzy(int blower) {
            return !isDizzy(blower) || goBy(restLeft(blower), false);
        }

        /** A BREATH without handing over; whether it ended ahead of the limit. */
        boolean breathe(int blower) {
            int done = since(blower);
            if (!goBy(plan.blower[blower].takes, false)) {
                return false;
            }
            fillBy(plan.blower[blower].breathBehind(done));
            state.since[blower] = done + 1;
            state.all[blower]++;
            state.end[blower] = state.seconds;
            state.last = blower;
            return true;
        }

        private void fillBy(int breath) {
            int more = within(worth(FILL, 0, breath), 99, breath);
            state.full = Math.min(state.full + more, plan.holds);
        }

        /** HANDS SECONDS whoever blew last, then n BREATHS as one who is fresh. */
        void getUp(int blower, int n) {
            Blower who = plan.blower[blower];
            goBy(who.hands, true);
            for (int done = 0; done < n; done++) {
                goBy(who.takes, false);
                fillBy(who.breathBehind(who.rests == 0 ? 0 : done));
            }
        }
    }

    /** Blows by a RULE till the bed is full, an hour at most. */
    private static final class Rules {
        private final Sim sim;
        int most;
        int whole;

        Rules(Sim used) {
            sim = used;
        }

        int secondsBy(int rule, Plan plan, State now) {
            sim.begin(plan, now);
            sim.limit = now.seconds + HOUR;
            if (rule == 0) {
                goRounds();
            } else {
                goByRule(rule);
            }
            return sim.isFull() ? sim.state.seconds - now.seconds : CANNOT;
        }

        private void goRounds() {
            Plan plan = sim.plan;
            int turn = 0;
            int breaths = 0;
            most = sim.state.full;
            whole = 0;
            // a step takes a SECOND at least, so an hour has no more of them
            for (int i = 0; i < HOUR && !sim.isOver(); i++) {
                int blower = plan.turnBlower[turn];
                if (sim.handOver(blower) && sim.restIfDizzy(blower) && sim.breathe(blower)) {
                    most = Math.max(most, sim.state.full);
                }
                breaths++;
                if (!sim.isOver() && breaths >= plan.turnBreaths[turn]) {
                    breaths = 0;
                    turn++;
                }
                if (turn >= plan.turns) {
                    turn = 0;
                    whole++;
                }
            }
        }

        private void goByRule(int rule) {
            int turn = 0;
            for (int i = 0; i < HOUR && !sim.isOver(); i++) {
                int blower = rule == 2 ? strongest() : firstAwake(turn);
                if (blower == NONE) {
                    sim.goBy(1, false);
                } else if (sim.handOver(blower) && sim.breathe(blower)) {
                    turn = rule == 1 && !sim.isDizzy(blower) ? blower : blower + 1;
                }
            }
        }

        private int firstAwake(int turn) {
            int blowers = sim.plan.blowers;
            for (int k = 0; k < blowers; k++) {
                int blower = (turn + k) % blowers;
                if (!sim.isDizzy(blower)) {
                    return blower;
                }
            }
            return NONE;
        }

        private int strongest() {
            int found = NONE;
            for (int b = 0; b < sim.plan.blowers; b++) {
                if (!sim.isDizzy(b) && (found == NONE || isStronger(b, found))) {
                    found = b;
                }
            }
            return found;
        }

        private boolean isStronger(int blower, int found) {
            int mine = sim.nextBreath(blower) * sim.plan.blower[found].takes;
            int theirs = sim.nextBreath(found) * sim.plan.blower[blower].takes;
            return mine > theirs || mine == theirs && blower == sim.state.last;
        }
    }

    /** The best one or two TURNS, of all that can be. */
    private static final class Best {
        private final Sim first;
        private final Sim second;
        final int[] row = new int[6];
        private boolean found;

        Best(Sim ahead, Sim behind) {
            first = ahead;
            second = behind;
        }

        boolean find(int n, Plan plan, State now) {
            found = false;
            for (int b = 0; b < plan.blowers; b++) {
                first.begin(plan, now);
                first.handOver(b);
                for (int k = 1; k <= plan.blower[b].times && !first.isDizzy(b); k++) {
                    first.breathe(b);
                    if (n == 1) {
                        offer(first.state, now.seconds, b, k, NONE, NONE);
                    } else {
                        tryBehind(now.seconds, b, k);
                    }
                }
            }
            return found;
        }

        private void tryBehind(int from, int firstBlower, int firstBreaths) {
            Plan plan = first.plan;
            for (int b = 0; b < plan.blowers; b++) {
                second.begin(plan, first.state);
                second.handOver(b);
                for (int k = 1; k <= plan.blower[b].times && !second.isDizzy(b); k++) {
                    second.breathe(b);
                    offer(second.state, from, firstBlower, firstBreaths, b, k);
                }
            }
        }

        /** Offers come in their order, so that of several like ones the first stays. */
        private void offer(State state, int from, int blower, int breaths, int nextBlower, int nextBreaths) {
            int seconds = state.seconds - from;
            boolean better = state.full > row[0] || state.full == row[0] && seconds < row[1];
            if (found && !better) {
                return;
            }
            found = true;
            row[0] = state.full;
            row[1] = seconds;
            row[2] = blower;
            row[3] = breaths;
            row[4] = nextBlower;
            row[5] = nextBreaths;
        }
    }

    /** The order in which the leak is sought. */
    private static final class Search {
        // the WEIGHT that is left by three LOOKS is whole in these parts
        private static final long PARTS = 1000000L;

        int leak;
        int trial;
        private final long[] left = new long[LEAKS_MOST];
        private final int[] looks = new int[LEAKS_MOST];

        boolean reach(int k, Plan plan, State now) {
            for (int i = 0; i < plan.leaks; i++) {
                left[i] = now.isPatched(i) ? 0 : plan.weight[i] * PARTS;
                looks[i] = 0;
            }
            if (k >= LEAKS_MOST * LOOKS_MOST) {
                return false;
            }
            for (int i = 0; i <= k; i++) {
                if (!findNext(plan)) {
                    return false;
                }
                left[leak] = left[leak] * (100 - plan.finds[trial]) / 100;
                looks[leak]++;
            }
            return true;
        }

        private boolean findNext(Plan plan) {
            long above = 0;
            long below = 1;
            for (int i = 0; i < plan.leaks; i++) {
                for (int k = 0; k < plan.trials && looks[i] < LOOKS_MOST; k++) {
                    long gain = left[i] * plan.finds[k];
                    if (gain * below > above * plan.trialSeconds[k]) {
                        above = gain;
                        below = plan.trialSeconds[k];
                        leak = i;
                        trial = k;
                    }
                }
            }
            return above > 0;
        }
    }

    /** What was seen, and what of it was struck. */
    private static final class Cheeks {
        static final int LESS = 0;
        static final int AT_LEAST = 1;
        static final int STRIKE = 2;

        int size;
        int known = -1;
        final int[] kind = new int[CHEEKS_MOST];
        final int[] about = new int[CHEEKS_MOST];
        final int[] breaths = new int[CHEEKS_MOST];
        final int[] full = new int[CHEEKS_MOST];
        private final boolean[] struck = new boolean[CHEEKS_MOST];

        void clear() {
            size = 0;
            known = -1;
        }

        int add(int what, int of, int n, int level) {
            if (size >= CHEEKS_MOST) {
                return NONE;
            }
            kind[size] = what;
            about[size] = of;
            breaths[size] = n;
            full[size] = level;
            size++;
            return size - 1;
        }

        int knownBy() {
            return known < 0 ? size : known;
        }

        /** From the last one on, as a STRIKE that is struck strikes nothing. */
        void markStruck() {
            for (int i = 0; i < size; i++) {
                struck[i] = false;
            }
            for (int i = knownBy() - 1; i >= 0; i--) {
                if (kind[i] == STRIKE && !struck[i]) {
                    struck[about[i]] = true;
                }
            }
        }

        boolean isSeen(int cheek) {
            return kind[cheek] != STRIKE && !struck[cheek];
        }
    }

    /** The latest States, the oldest of which gives way. */
    private static final class History {
        private final State[] states = new State[UNDO_MOST];
        private int next;
        int size;

        History() {
            for (int i = 0; i < UNDO_MOST; i++) {
                states[i] = new State();
            }
        }

        void clear() {
            size = 0;
        }

        void push(State state) {
            states[next].copy(state);
            next = (next + 1) % UNDO_MOST;
            size = Math.min(size + 1, UNDO_MOST);
        }

        boolean pop(State into) {
            if (size == 0) {
                return false;
            }
            next = (next + UNDO_MOST - 1) % UNDO_MOST;
            into.copy(states[next]);
            size--;
            return true;
        }
    }
}
