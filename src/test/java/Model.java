import java.math.BigInteger;
import java.util.ArrayDeque;
import java.util.ArrayList;
import java.util.Arrays;
import java.util.Comparator;
import java.util.Deque;
import java.util.List;
import java.util.NoSuchElementException;
import java.util.Set;

/** The document told a second time, as plainly as may be and without a thought for cost. */
final class Model {
    private static final BigInteger LIMIT = BigInteger.TEN.pow(12);
    private static final Set<String> LANGUAGE = Set.of("bed", "blower", "turn", "pump", "leak", "trial", "slip",
            "seed", "law", "lose", "fill", "load", "or", "and", "not", "full", "room", "open", "second", "breath");
    private static final List<String> NAMES = List.of("full", "room", "open", "load", "second", "breath");
    private static final List<String> KINDS = List.of("lose", "fill", "load");

    private record Token(String text, int at) {
        boolean isWord() {
            return text.matches("[a-z]+");
        }

        boolean isOwn() {
            return text.matches("[a-z]{1,6}") && !LANGUAGE.contains(text);
        }

        boolean isNumber() {
            return text.matches("[0-9]+");
        }
    }

    private static final class Fault extends RuntimeException {
        private static final long serialVersionUID = 1L;
        final int what;
        final int at;

        Fault(int what, int at) {
            super(null, null, false, false);
            this.what = what;
            this.at = at;
        }
    }

    /** null is an ERROR. */
    private interface Node {
        BigInteger worth(long[] names);
    }

    private record Blower(String name, int breath, int less, int times, int takes, int rests, int hands, int cost) {
    }

    private record Turn(int blower, int breaths) {
    }

    private record Leak(int weight, int loses) {
    }

    private record Trial(String name, int finds, int seconds) {
    }

    private record Cheek(int blower, int n, int full, boolean atLeast, int struck) {
    }

    private static final class Told {
        int holds = 500;
        int first = 0;
        boolean bed;
        boolean pump;
        boolean slipTold;
        boolean seedTold;
        final List<Blower> blowers = new ArrayList<>();
        final List<Turn> turns = new ArrayList<>();
        final List<Leak> leaks = new ArrayList<>();
        final List<Trial> trials = new ArrayList<>();
        int pumpFills;
        int pumpLent;
        int slip;
        long seed;
        int real = -1;
        int knots;
        int lines;
        final Node[] laws = new Node[3];
    }

    private static final class Now implements Cloneable {
        int full;
        int seconds;
        int last = -1;
        int left;
        Set<Integer> patched = Set.of();
        int[] since = new int[4];
        int[] all = new int[4];
        int[] end = new int[4];

        Now copy() {
            try {
                Now copy = (Now) clone();
                copy.since = since.clone();
                copy.all = all.clone();
                copy.end = end.clone();
                return copy;
            } catch (CloneNotSupportedException e) {
                throw new AssertionError(e);
            }
        }
    }

    /** How the SECONDS of a trial differ from the real ones. */
    private record Ways(int real, boolean unloaded, boolean pumping) {
    }

    private final StringBuilder tape = new StringBuilder();
    private Told told = new Told();
    private Now now = new Now();
    private Now image = null;
    private final Deque<Now> past = new ArrayDeque<>();
    private final List<Cheek> cheeks = new ArrayList<>();
    private int known = -1;
    private int fault = 0;
    private int faultAt = -1;

    // ---- the text

    int feed(int... five) {
        if (tape.length() + 20 > 700) {
            return -1;
        }
        for (int number : five) {
            for (int k = 3; k >= 0; k--) {
                tape.append((char) ((number >> 8 * k) & 0xff));
            }
        }
        return tape.length();
    }

    int text(int n) {
        if (n < 0 || n > tape.length()) {
            return -2;
        }
        String text = tape.substring(0, n);
        tape.setLength(0);
        fault = 0;
        faultAt = -1;
        Told read;
        try {
            read = new Parse(text).all();
        } catch (Fault e) {
            fault = e.what;
            faultAt = e.at;
            return -1;
        }
        told = read;
        now = new Now();
        now.full = told.first;
        now.left = told.pumpLent;
        image = null;
        past.clear();
        cheeks.clear();
        known = -1;
        return told.lines;
    }

    private static final class Parse {
        private final List<Token> tokens = new ArrayList<>();
        private final Told told = new Told();
        private int next = 0;
        private int depth = 0;

        Parse(String text) {
            int i = 0;
            while (i < text.length()) {
                int from = i;
                char c = text.charAt(i++);
                if (c == ' ' || c == '\n') {
                    continue;
                }
                if (Character.toString(c).matches("[a-z]")) {
                    while (i < text.length() && text.substring(i, i + 1).matches("[a-z]")) {
                        i++;
                    }
                } else if (Character.toString(c).matches("[0-9]")) {
                    while (i < text.length() && text.substring(i, i + 1).matches("[0-9]")) {
                        i++;
                    }
                } else if (i < text.length() && Set.of("<=", "<>", ">=").contains(text.substring(from, i + 1))) {
                    i++;
                }
                tokens.add(new Token(text.substring(from, i), from));
            }
            tokens.add(new Token("", text.length()));
        }

        private Token peek() {
            return tokens.get(next);
        }

        private Token take() {
            Token token = peek();
            if (!token.text.isEmpty()) {
                next++;
            }
            return token;
        }

        private static void check(boolean fine, int what, Token token) {
            if (!fine) {
                throw new Fault(what, token.at);
            }
        }

        private int number(int least, int most) {
            Token token = take();
            check(token.isNumber(), 1, token);
            BigInteger value = new BigInteger(token.text);
            check(value.compareTo(BigInteger.valueOf(least)) >= 0 && value.compareTo(BigInteger.valueOf(most)) <= 0, 2,
                    token);
            return value.intValue();
        }

        Told all() {
            while (!peek().text.isEmpty()) {
                line();
                Token end = take();
                check(end.text.equals(";"), 1, end);
                told.lines++;
            }
            if (!told.leaks.isEmpty()) {
                int sum = told.leaks.stream().mapToInt(Leak::weight).sum();
                long drawn = step(told.seed) / 65536 % sum;
                int so = 0;
                for (int i = 0; i < told.leaks.size() && told.real < 0; i++) {
                    so += told.leaks.get(i).weight;
                    if (so > drawn) {
                        told.real = i;
                    }
                }
            }
            return told;
        }

        private void line() {
            Token word = take();
            switch (word.text) {
                case "bed" -> {
                    check(!told.bed, 3, word);
                    told.bed = true;
                    told.holds = number(1, 9999);
                    told.first = peek().isNumber() ? number(0, told.holds) : 0;
                }
                case "blower" -> {
                    check(told.blowers.size() < 4, 2, word);
                    Token name = take();
                    check(name.isOwn(), 1, name);
                    check(told.blowers.stream().noneMatch(b -> b.name.equals(name.text)), 3, name);
                    told.blowers.add(new Blower(name.text, number(1, 99), number(0, 20), number(1, 20), number(1, 9),
                            number(0, 99), number(0, 9), number(0, 99)));
                }
                case "turn" -> {
                    check(told.turns.size() < 8, 2, word);
                    Token name = take();
                    check(name.isOwn(), 1, name);
                    int blower = told.blowers.stream().map(Blower::name).toList().indexOf(name.text);
                    check(blower >= 0, 4, name);
                    told.turns.add(new Turn(blower, number(1, 20)));
                }
                case "pump" -> {
                    check(!told.pump, 3, word);
                    told.pump = true;
                    told.pumpFills = number(1, 99);
                    told.pumpLent = number(1, 99);
                }
                case "leak" -> {
                    check(told.leaks.size() < 6, 2, word);
                    told.leaks.add(new Leak(number(1, 99), number(0, 99)));
                }
                case "trial" -> {
                    check(told.trials.size() < 3, 2, word);
                    Token name = take();
                    check(name.isOwn(), 1, name);
                    check(told.trials.stream().noneMatch(b -> b.name.equals(name.text)), 3, name);
                    told.trials.add(new Trial(name.text, number(1, 100), number(1, 99)));
                }
                case "slip" -> {
                    check(!told.slipTold, 3, word);
                    told.slipTold = true;
                    told.slip = number(0, 999);
                }
                case "seed" -> {
                    check(!told.seedTold, 3, word);
                    told.seedTold = true;
                    told.seed = number(0, 99999);
                }
                case "law" -> {
                    Token kind = take();
                    int law = KINDS.indexOf(kind.text);
                    check(law >= 0, 1, kind);
                    check(told.laws[law] == null, 3, kind);
                    told.laws[law] = expression();
                }
                default -> throw new Fault(1, word.at);
            }
        }

        private Token knot() {
            Token token = take();
            told.knots++;
            check(told.knots <= 64, 2, token);
            return token;
        }

        private Node expression() {
            Node left = conjunction();
            while (peek().text.equals("or")) {
                knot();
                left = both("or", left, conjunction());
            }
            return left;
        }

        private Node conjunction() {
            Node left = negation();
            while (peek().text.equals("and")) {
                knot();
                left = both("and", left, negation());
            }
            return left;
        }

        private Node negation() {
            if (!peek().text.equals("not")) {
                return comparison();
            }
            knot();
            Node of = negation();
            return names -> {
                BigInteger value = of.worth(names);
                return value == null ? null : value.signum() == 0 ? BigInteger.ONE : BigInteger.ZERO;
            };
        }

        private Node comparison() {
            Node left = sum();
            if (!Set.of("<", "<=", "=", "<>", ">=", ">").contains(peek().text)) {
                return left;
            }
            return both(knot().text, left, sum());
        }

        private Node sum() {
            Node left = product();
            while (Set.of("+", "-").contains(peek().text)) {
                left = both(knot().text, left, product());
            }
            return left;
        }

        private Node product() {
            Node left = primary();
            while (Set.of("*", "/").contains(peek().text)) {
                left = both(knot().text, left, primary());
            }
            return left;
        }

        private Node primary() {
            if (peek().text.equals("(")) {
                check(depth < 8, 2, take());
                depth++;
                Node inner = expression();
                Token close = take();
                check(close.text.equals(")"), 1, close);
                depth--;
                return inner;
            }
            check(peek().isNumber() || NAMES.contains(peek().text), 1, peek());
            Token token = knot();
            if (token.isNumber()) {
                BigInteger value = new BigInteger(token.text);
                check(value.compareTo(BigInteger.valueOf(9999)) <= 0, 2, token);
                return names -> value;
            }
            int name = NAMES.indexOf(token.text);
            return names -> BigInteger.valueOf(names[name]);
        }

        private static Node both(String sign, Node left, Node right) {
            return names -> {
                BigInteger a = left.worth(names);
                BigInteger b = right.worth(names);
                if (a == null || b == null) {
                    return null;
                }
                BigInteger c = joined(sign, a, b);
                return c == null || c.abs().compareTo(LIMIT) > 0 ? null : c;
            };
        }

        private static BigInteger joined(String sign, BigInteger a, BigInteger b) {
            int order = a.compareTo(b);
            boolean so;
            switch (sign) {
                case "+":
                    return a.add(b);
                case "-":
                    return a.subtract(b);
                case "*":
                    return a.multiply(b);
                case "/":
                    return b.signum() == 0 ? null : a.divide(b);
                case "or":
                    so = a.signum() != 0 || b.signum() != 0;
                    break;
                case "and":
                    so = a.signum() != 0 && b.signum() != 0;
                    break;
                case "<":
                    so = order < 0;
                    break;
                case "<=":
                    so = order <= 0;
                    break;
                case "=":
                    so = order == 0;
                    break;
                case "<>":
                    so = order != 0;
                    break;
                case ">=":
                    so = order >= 0;
                    break;
                default:
                    so = order > 0;
                    break;
            }
            return so ? BigInteger.ONE : BigInteger.ZERO;
        }
    }

    private static long step(long last) {
        return BigInteger.valueOf(last).multiply(BigInteger.valueOf(1103515245L)).add(BigInteger.valueOf(12345))
                .mod(BigInteger.ONE.shiftLeft(31)).longValue();
    }

    int fault(int what) {
        return what == 0 ? fault : what == 1 ? faultAt : -1;
    }

    int named(int what, int letters) {
        List<String> names = what == 0 ? told.blowers.stream().map(Blower::name).toList()
                : what == 1 ? told.trials.stream().map(Trial::name).toList() : List.of();
        return names.stream().map(Checks::letters).toList().indexOf(letters);
    }

    // ---- SECONDS and BREATHS

    private Ways real() {
        return new Ways(told.real, false, false);
    }

    private BigInteger law(int law, Now s, boolean open, int breath, boolean unloaded) {
        if (told.laws[law] == null) {
            return null;
        }
        long load = law == 2 || unloaded ? 0 : clip(law(2, s, open, 0, true), 99, 0);
        return told.laws[law].worth(
                new long[] {s.full, told.holds - s.full, open ? 1 : 0, load, s.seconds, law == 1 ? breath : 0});
    }

    private static int clip(BigInteger value, int most, int without) {
        return value == null ? without : value.max(BigInteger.ZERO).min(BigInteger.valueOf(most)).intValue();
    }

    private void second(Now s, boolean open, Ways ways) {
        int lost = clip(law(0, s, open, 0, ways.unloaded), 999, s.full / 100 + (open ? 20 : 0));
        if (ways.real >= 0 && !s.patched.contains(ways.real)) {
            lost += told.leaks.get(ways.real).loses;
        }
        s.full = Math.max(0, s.full - lost);
        if (ways.pumping) {
            s.full = Math.min(told.holds, s.full + told.pumpFills);
        }
        s.seconds++;
    }

    private void seconds(Now s, int n, boolean open) {
        for (int i = 0; i < n; i++) {
            second(s, open, real());
        }
    }

    private boolean rested(Now s, int b) {
        return s.seconds - s.end[b] >= told.blowers.get(b).rests;
    }

    private int since(Now s, int b) {
        return rested(s, b) ? 0 : s.since[b];
    }

    private boolean dizzy(Now s, int b) {
        return since(s, b) >= told.blowers.get(b).times;
    }

    private int amount(int b, int done) {
        return Math.max(0, told.blowers.get(b).breath - told.blowers.get(b).less * done);
    }

    private int hands(Now s, int b) {
        return s.last == -1 || s.last == b ? 0 : told.blowers.get(b).hands;
    }

    private void fill(Now s, int breath) {
        s.full = Math.min(told.holds, s.full + clip(law(1, s, false, breath, false), 99, breath));
    }

    /** The BREATH itself, behind HANDS, of one who isn't DIZZY. */
    private void breath(Now s, int b) {
        int done = since(s, b);
        seconds(s, told.blowers.get(b).takes, false);
        fill(s, amount(b, done));
        s.since[b] = done + 1;
        s.all[b]++;
        s.end[b] = s.seconds;
        s.last = b;
    }

    /** null: DIZZY ahead of one of them. */
    private Now blown(Now from, int b, int n) {
        Now s = from.copy();
        for (int i = 0; i < n; i++) {
            seconds(s, hands(s, b), true);
            if (dizzy(s, b)) {
                return null;
            }
            breath(s, b);
        }
        return s;
    }

    int look(int b, int what) {
        if (b < 0 || b >= told.blowers.size()) {
            throw new IndexOutOfBoundsException();
        }
        return switch (what) {
            case 0 -> amount(b, since(now, b));
            case 1 -> since(now, b);
            case 2 -> now.all[b];
            case 3 -> dizzy(now, b) ? 1 : 0;
            case 4 -> since(now, b) == 0 ? 0 : told.blowers.get(b).rests - (now.seconds - now.end[b]);
            default -> throw new NoSuchElementException();
        };
    }

    long law(int what, int number) {
        boolean fine = what == 0 ? number == 0 || number == 1 : what == 1 ? number >= 0 && number <= 999 : what == 2;
        BigInteger value = fine ? law(what, now, what == 0 && number == 1, number, false) : null;
        return value == null ? Long.MIN_VALUE : value.longValue();
    }

    private int become(Now next) {
        past.push(now);
        if (past.size() > 20) {
            past.removeLast();
        }
        now = next;
        return now.full;
    }

    private boolean noBlower(int b) {
        return b < 0 || b >= told.blowers.size();
    }

    int blow(int b, int n) {
        if (noBlower(b) || n < 1 || n > 20) {
            return -1;
        }
        Now next = blown(now, b, n);
        if (next == null) {
            return -2;
        }
        return next.seconds > 99999 ? -1 : become(next);
    }

    int waits(int n, boolean open) {
        if (n < 1 || n > 999 || now.seconds + n > 99999) {
            return -1;
        }
        Now next = now.copy();
        seconds(next, n, open);
        return become(next);
    }

    int pump(int n) {
        if (!told.pump || n < 1) {
            return -1;
        }
        if (n > now.left) {
            return -2;
        }
        if (now.seconds + n > 99999) {
            return -1;
        }
        Now next = now.copy();
        for (int i = 0; i < n; i++) {
            second(next, false, new Ways(told.real, false, true));
        }
        next.left -= n;
        next.last = -2;
        return become(next);
    }

    int patch(int leak) {
        if (leak < 0 || leak >= told.leaks.size() || now.patched.contains(leak)) {
            return -1;
        }
        Now next = now.copy();
        next.patched = new java.util.HashSet<>(now.patched);
        next.patched.add(leak);
        become(next);
        return leak == told.real ? 1 : 0;
    }

    int leak() {
        return told.real;
    }

    // ---- ROUNDS and RULES

    private static final class Over extends RuntimeException {
        private static final long serialVersionUID = 1L;

        Over() {
            super(null, null, false, false);
        }
    }

    /** Lets SECONDS by one at a time and stops with the 3600th. */
    private final class Hour {
        final Now s = now.copy();
        int most = now.full;
        int whole = 0;

        int gone() {
            return s.seconds - now.seconds;
        }

        void let(int n, boolean open) {
            for (int i = 0; i < n; i++) {
                if (gone() == 3600) {
                    throw new Over();
                }
                second(s, open, real());
            }
        }

        void ask() {
            if (s.full == told.holds || gone() == 3600) {
                throw new Over();
            }
        }

        void breathe(int b) {
            int done = since(s, b);
            let(told.blowers.get(b).takes, false);
            fill(s, amount(b, done));
            s.since[b] = done + 1;
            s.end[b] = s.seconds;
            s.last = b;
            most = Math.max(most, s.full);
            ask();
        }

        int run(int rule) {
            try {
                ask();
                if (rule == 0) {
                    rounds();
                } else if (rule == 1) {
                    tillDizzy();
                } else if (rule == 2) {
                    strongest();
                } else {
                    oneEach();
                }
            } catch (Over e) {
                return s.full == told.holds ? gone() : -2;
            }
            throw new AssertionError();
        }

        private void rounds() {
            for (;; whole++) {
                for (Turn turn : told.turns) {
                    for (int i = 0; i < turn.breaths; i++) {
                        let(hands(s, turn.blower), true);
                        while (dizzy(s, turn.blower)) {
                            let(1, false);
                        }
                        breathe(turn.blower);
                    }
                }
            }
        }

        private void blowOnce(int b) {
            let(hands(s, b), true);
            breathe(b);
        }

        private boolean allDizzy() {
            for (int b = 0; b < told.blowers.size(); b++) {
                if (!dizzy(s, b)) {
                    return false;
                }
            }
            return true;
        }

        private void tillDizzy() {
            for (int b = 0;; b = (b + 1) % told.blowers.size()) {
                while (allDizzy()) {
                    let(1, false);
                }
                while (!dizzy(s, b)) {
                    blowOnce(b);
                }
            }
        }

        private void oneEach() {
            for (int b = 0;; b = (b + 1) % told.blowers.size()) {
                while (allDizzy()) {
                    let(1, false);
                }
                if (!dizzy(s, b)) {
                    blowOnce(b);
                }
            }
        }

        private void strongest() {
            for (;;) {
                while (allDizzy()) {
                    let(1, false);
                }
                List<Integer> awake = new ArrayList<>();
                for (int b = 0; b < told.blowers.size(); b++) {
                    if (!dizzy(s, b)) {
                        awake.add(b);
                    }
                }
                double greatest = awake.stream().mapToDouble(this::speed).max().orElseThrow();
                awake.removeIf(b -> speed(b) < greatest - 1e-9);
                blowOnce(awake.contains(s.last) ? s.last : awake.get(0));
            }
        }

        private double speed(int b) {
            return (double) amount(b, since(s, b)) / told.blowers.get(b).takes;
        }
    }

    int ever(int what) {
        if (told.turns.isEmpty() || what < 0 || what > 3) {
            return -1;
        }
        Hour hour = new Hour();
        int seconds = hour.run(0);
        return switch (what) {
            case 0 -> seconds >= 0 ? 1 : 0;
            case 1 -> seconds >= 0 ? seconds : -1;
            case 2 -> hour.most;
            default -> hour.whole;
        };
    }

    int rule(int rule) {
        if (rule < 0 || rule > 3 || told.blowers.isEmpty() || rule == 0 && told.turns.isEmpty()) {
            return -1;
        }
        return new Hour().run(rule);
    }

    int fairest() {
        if (told.blowers.isEmpty()) {
            return -1;
        }
        int found = -2;
        int fewest = Integer.MAX_VALUE;
        for (int rule = 0; rule < 4; rule++) {
            int seconds = rule(rule);
            if (seconds >= 0 && seconds < fewest) {
                found = rule;
                fewest = seconds;
            }
        }
        return found;
    }

    // ---- BEST, LASTS, UP, LEND

    int best(int n, int what) {
        if (n < 1 || n > 2 || what < 0 || told.blowers.isEmpty()) {
            return -1;
        }
        if (what > 2 * n + 1) {
            return -2;
        }
        List<int[]> rows = new ArrayList<>();
        for (int b = 0; b < told.blowers.size(); b++) {
            for (int k = 1; k <= told.blowers.get(b).times; k++) {
                Now s = blown(now, b, k);
                if (s == null) {
                    continue;
                }
                if (n == 1) {
                    rows.add(new int[] {s.full, s.seconds - now.seconds, b, k});
                    continue;
                }
                for (int c = 0; c < told.blowers.size(); c++) {
                    for (int m = 1; m <= told.blowers.get(c).times; m++) {
                        Now t = blown(s, c, m);
                        if (t != null) {
                            rows.add(new int[] {t.full, t.seconds - now.seconds, b, k, c, m});
                        }
                    }
                }
            }
        }
        if (rows.isEmpty()) {
            return -2;
        }
        rows.sort(Comparator.<int[]>comparingInt(row -> -row[0]).thenComparing((x, y) ->
                Arrays.compare(x, 1, x.length, y, 1, y.length)));
        return rows.get(0)[what];
    }

    int lasts(int from, int bound) {
        if (from < 0 || from > told.holds || bound < 0 || bound > 9999) {
            return -1;
        }
        return lasting(from, bound, 3600);
    }

    private int lasting(int from, int bound, int most) {
        Now s = now.copy();
        s.full = from;
        int n = 0;
        for (; n < most && s.full >= bound; n++) {
            second(s, false, real());
        }
        return n;
    }

    int firm(int seconds, int bound) {
        if (seconds < 0 || seconds > 60 || bound < 0 || bound > 9999) {
            return -1;
        }
        for (int full = 0; full <= told.holds; full++) {
            if (lasting(full, bound, seconds) >= seconds) {
                return full;
            }
        }
        return -2;
    }

    /** The State behind getting up; null: FULL was below the bound. */
    private Now risen(Now from, int b, int n, int bound, Ways ways) {
        Now s = from.copy();
        boolean fine = true;
        for (int i = 0; i < told.blowers.get(b).hands; i++) {
            second(s, true, ways);
            fine &= s.full >= bound;
        }
        for (int k = 0; k < n; k++) {
            for (int i = 0; i < told.blowers.get(b).takes; i++) {
                second(s, false, ways);
                fine &= s.full >= bound;
            }
            fill(s, told.blowers.get(b).rests == 0 ? told.blowers.get(b).breath : amount(b, k));
        }
        return fine ? s : null;
    }

    /** null: it can't be. */
    private List<Integer> ups(int b, int n, int bound) {
        List<Integer> found = new ArrayList<>();
        Now s = now.copy();
        if (s.full < bound) {
            return null;
        }
        while (s.seconds - now.seconds < n) {
            Now waited = s.copy();
            second(waited, false, real());
            boolean last = waited.seconds - now.seconds >= n;
            boolean rise = waited.full < bound
                    || !last && risen(waited, b, told.blowers.get(b).times, bound, real()) == null;
            if (rise) {
                found.add(s.seconds - now.seconds);
                s = risen(s, b, told.blowers.get(b).times, bound, real());
                if (s == null) {
                    return null;
                }
            } else {
                s = waited;
            }
        }
        return found;
    }

    private static boolean noNight(int n, int bound) {
        return n < 1 || n > 3600 || bound < 0 || bound > 9999;
    }

    int up(int b, int n, int bound) {
        if (noBlower(b) || noNight(n, bound)) {
            return -1;
        }
        List<Integer> ups = ups(b, n, bound);
        return ups == null ? -2 : ups.size();
    }

    int upAt(int b, int n, int bound, int k) {
        if (noBlower(b) || noNight(n, bound) || k < 0) {
            return -1;
        }
        List<Integer> ups = ups(b, n, bound);
        return ups == null || k >= ups.size() ? -2 : ups.get(k);
    }

    int cheapest(int n, int bound, int what) {
        if (noNight(n, bound) || what < 0 || what > 1) {
            return -1;
        }
        int found = -2;
        int least = Integer.MAX_VALUE;
        for (int b = 0; b < told.blowers.size(); b++) {
            int up = up(b, n, bound);
            if (up >= 0 && up * told.blowers.get(b).cost < least) {
                found = b;
                least = up * told.blowers.get(b).cost;
            }
        }
        return found < 0 || what == 0 ? found : least;
    }

    int lend(int n, int what) {
        if (n < 1 || n > 600 || what < 0 || what > 1 || !told.pump || n < now.left) {
            return -1;
        }
        int found = -1;
        int greatest = -1;
        for (int from = 0; from <= n - now.left; from++) {
            Now s = now.copy();
            for (int i = 0; i < n; i++) {
                second(s, false, new Ways(told.real, false, i >= from && i < from + now.left));
            }
            if (s.full > greatest) {
                greatest = s.full;
                found = from;
            }
        }
        return what == 0 ? found : greatest;
    }

    // ---- the leak

    int seek(int k, int what) {
        if (k < 0 || what < 0 || what > 1) {
            return -1;
        }
        BigInteger[] left = new BigInteger[told.leaks.size()];
        int[] looks = new int[left.length];
        for (int i = 0; i < left.length; i++) {
            left[i] = now.patched.contains(i) ? BigInteger.ZERO
                    : BigInteger.valueOf(told.leaks.get(i).weight).multiply(BigInteger.TEN.pow(6));
        }
        for (int step = 0;; step++) {
            int leak = -1;
            int trial = -1;
            for (int i = 0; i < left.length; i++) {
                for (int t = 0; t < told.trials.size() && looks[i] < 3 && left[i].signum() > 0; t++) {
                    if (leak < 0 || gain(left[i], t, trial).compareTo(gain(left[leak], trial, t)) > 0) {
                        leak = i;
                        trial = t;
                    }
                }
            }
            if (leak < 0) {
                return -2;
            }
            if (step == k) {
                return what == 0 ? leak : trial;
            }
            left[leak] = left[leak].multiply(BigInteger.valueOf(100 - told.trials.get(trial).finds))
                    .divide(BigInteger.valueOf(100));
            looks[leak]++;
        }
    }

    private BigInteger gain(BigInteger weight, int trial, int against) {
        return weight.multiply(BigInteger.valueOf((long) told.trials.get(trial).finds
                * told.trials.get(against).seconds));
    }

    int mean(int what) {
        int each = told.trials.stream().filter(t -> t.finds == 100).mapToInt(Trial::seconds).min().orElse(-1);
        if (what < 0 || what > 1 || told.leaks.isEmpty() || each < 0) {
            return -1;
        }
        List<Integer> weights = told.leaks.stream().map(Leak::weight).sorted(Comparator.reverseOrder()).toList();
        long above = 0;
        long below = 0;
        long gone = 0;
        for (int weight : weights) {
            gone += each;
            above += gone * weight;
            below += weight;
        }
        long common = BigInteger.valueOf(above).gcd(BigInteger.valueOf(below)).longValue();
        return (int) (what == 0 ? above / common : below / common);
    }

    // ---- what was seen

    int cheek(int b, int n, int full, boolean atLeast) {
        if (noBlower(b) || n < 1 || n > told.blowers.get(b).times || full < 0 || full > 9999 || cheeks.size() == 24) {
            return -1;
        }
        cheeks.add(new Cheek(b, n, full, atLeast, -1));
        return cheeks.size() - 1;
    }

    int strike(int cheek) {
        if (cheek < 0 || cheek >= cheeks.size() || cheeks.size() == 24) {
            return -1;
        }
        cheeks.add(new Cheek(-1, 0, 0, false, cheek));
        return cheeks.size() - 1;
    }

    boolean known(int n) {
        if (n < -1 || n > cheeks.size()) {
            return false;
        }
        known = n;
        return true;
    }

    private int knownBy() {
        return known == -1 ? cheeks.size() : known;
    }

    private boolean struck(int i) {
        for (int k = i + 1; k < knownBy(); k++) {
            if (cheeks.get(k).struck == i && !struck(k)) {
                return true;
            }
        }
        return false;
    }

    int fits() {
        int bits = 0;
        Now start = new Now();
        start.full = told.first;
        for (int leak = 0; leak <= told.leaks.size(); leak++) {
            boolean fits = true;
            for (int i = 0; i < knownBy(); i++) {
                Cheek cheek = cheeks.get(i);
                if (cheek.struck < 0 && !struck(i)) {
                    Ways ways = new Ways(leak < told.leaks.size() ? leak : -1, false, false);
                    int full = risen(start, cheek.blower, cheek.n, 0, ways).full;
                    fits &= full >= cheek.full == cheek.atLeast;
                }
            }
            bits += fits ? 1 << leak : 0;
        }
        return bits;
    }

    int chance(int seed, int n, int bound) {
        if (seed < 0 || n < 1 || n > 600 || bound < 0 || bound > 9999) {
            return -1;
        }
        long last = seed;
        int times = 0;
        for (int i = 0; i < 10; i++) {
            Now s = now.copy();
            for (int k = 0; k < n; k++) {
                last = step(last);
                second(s, last / 65536 % 1000 < told.slip, real());
            }
            times += s.full >= bound ? 1 : 0;
        }
        return times;
    }

    int tried(int what, int i, int n) {
        if (what < 0 || what > 4 || n < 0 || n > 3600 || what != 4 && i != 0 || what == 3 && !told.pump) {
            return -1;
        }
        if (what == 4 && (i < 0 || i >= told.leaks.size())) {
            return -1;
        }
        Now s = now.copy();
        Ways ways = new Ways(what == 0 ? -1 : what == 4 ? i : told.real, what == 2, what == 3);
        for (int k = 0; k < n; k++) {
            second(s, what == 1, ways);
        }
        return s.full;
    }

    // ---- undone, kept, counted

    int undo() {
        if (past.isEmpty()) {
            return -1;
        }
        now = past.pop();
        return past.size();
    }

    int keep() {
        image = now.copy();
        return now.seconds;
    }

    int back() {
        if (image == null) {
            return -1;
        }
        now = image.copy();
        past.clear();
        return now.seconds;
    }

    int count(int what) {
        return switch (what) {
            case 0 -> told.holds;
            case 1 -> now.full;
            case 2 -> told.blowers.size();
            case 3 -> told.turns.size();
            case 4 -> told.leaks.size();
            case 5 -> told.trials.size();
            case 6 -> told.knots;
            case 7 -> now.seconds;
            case 8 -> now.left;
            case 9 -> Math.max(now.last, -1);
            case 10 -> now.patched.stream().mapToInt(i -> 1 << i).sum();
            case 11 -> cheeks.size();
            case 12 -> knownBy();
            case 13 -> past.size();
            default -> -1;
        };
    }
}
