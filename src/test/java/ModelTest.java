import java.util.ArrayList;
import java.util.List;
import java.util.NoSuchElementException;
import java.util.Random;

/** Random texts and calls: each answer of the class against the one of the Model. */
public final class ModelTest {
    private static final long THROWN_INDEX = Long.MIN_VALUE + 1;
    private static final long THROWN_ELEMENT = Long.MIN_VALUE + 2;

    private final Random random;
    private final AirBed bed = new AirBed();
    private final Model model = new Model();
    private final List<String> told = new ArrayList<>();
    private int wrong = 0;

    private ModelTest(long seed) {
        random = new Random(seed);
    }

    public static void main(String[] args) {
        int runs = args.length > 0 ? Integer.parseInt(args[0]) : 400;
        long from = args.length > 1 ? Long.parseLong(args[1]) : 1;
        for (long seed = from; seed < from + runs; seed++) {
            ModelTest run = new ModelTest(seed);
            run.goOn();
            Checks.due("run " + seed, run.wrong, 0);
        }
        Checks.finish();
    }

    private int pick(int least, int most) {
        return least + random.nextInt(most - least + 1);
    }

    private boolean oneOf(int n) {
        return random.nextInt(n) == 0;
    }

    private String one(String... of) {
        return of[random.nextInt(of.length)];
    }

    private int nearly(int least, int most) {
        return oneOf(12) ? pick(least - 2, most + 2) : pick(least, most);
    }

    private void goOn() {
        int texts = pick(1, 3);
        for (int i = 0; i < texts; i++) {
            tell(text());
            int calls = pick(20, 60);
            for (int k = 0; k < calls && wrong == 0; k++) {
                call();
            }
        }
    }

    private void same(String call, long got, long want) {
        told.add(call + " = " + got);
        if (got != want) {
            wrong++;
            System.out.println(String.join("\n", told));
            System.out.println("  the model answers " + want);
        }
    }

    // ---- texts

    private void tell(String text) {
        for (int at = 0; at < text.length(); at += 20) {
            int[] five = new int[5];
            for (int i = 0; i < 20; i++) {
                five[i / 4] = five[i / 4] << 8 | (at + i < text.length() ? text.charAt(at + i) : ' ');
            }
            same("feed", bed.feed(five[0], five[1], five[2], five[3], five[4]), model.feed(five));
        }
        told.add(text);
        int n = oneOf(20) ? pick(-1, text.length() + 30) : text.length();
        same("text(" + n + ")", bed.text(n), model.text(n));
        same("fault(0)", bed.fault(0), model.fault(0));
        same("fault(1)", bed.fault(1), model.fault(1));
    }

    private String text() {
        List<String> lines = new ArrayList<>();
        int holds = oneOf(6) ? pick(1, 2000) : pick(1, 200);
        if (!oneOf(8)) {
            lines.add("bed " + holds + (oneOf(2) ? "" : " " + pick(0, holds)));
        }
        int blowers = pick(0, 4);
        for (int b = 0; b < blowers; b++) {
            lines.add("blower " + "abcd".charAt(b) + " " + pick(1, 30) + " " + pick(0, 4) + " "
                    + pick(1, oneOf(4) ? 20 : 5) + " " + pick(1, 4) + " " + pick(0, oneOf(3) ? 99 : 15) + " "
                    + pick(0, 4) + " " + pick(0, 20));
        }
        int turns = blowers == 0 ? 0 : pick(0, oneOf(4) ? 8 : 3);
        for (int i = 0; i < turns; i++) {
            lines.add("turn " + "abcd".charAt(pick(0, blowers - 1)) + " " + pick(1, 5));
        }
        addOthers(lines);
        if (oneOf(3)) {
            lines.add(pick(0, lines.size()), "leak " + pick(1, 99) + " " + pick(0, 3));
        }
        String text = String.join(oneOf(2) ? ";" : ";\n", lines) + ";";
        text = oneOf(4) ? spoiled(text) : text;
        return text.length() > 700 ? "bed 7;" : text;
    }

    private void addOthers(List<String> lines) {
        if (!oneOf(3)) {
            lines.add("pump " + pick(1, 20) + " " + pick(1, 20));
        }
        int leaks = pick(0, oneOf(3) ? 5 : 3);
        for (int i = 0; i < leaks; i++) {
            lines.add("leak " + pick(1, 99) + " " + pick(0, oneOf(3) ? 20 : 3));
        }
        int trials = pick(0, 3);
        for (int i = 0; i < trials; i++) {
            lines.add("trial " + "xyz".charAt(i) + " " + (oneOf(3) ? 100 : pick(1, 100)) + " " + pick(1, 20));
        }
        if (oneOf(2)) {
            lines.add("slip " + pick(0, 999));
        }
        if (oneOf(2)) {
            lines.add("seed " + pick(0, 99999));
        }
        String[] kinds = {"lose", "fill", "load"};
        for (String kind : kinds) {
            if (oneOf(2)) {
                lines.add("law " + kind + " " + law(kind));
            }
        }
    }

    private String law(String kind) {
        if (oneOf(2)) {
            return either(3);
        }
        return switch (kind) {
            case "lose" -> one("open * 4 + load / 9", "full / 20 + open * 5", "(full > 50) * 7 + second / 30",
                    "1 + open", "full * full / 150", "load + open", "not open", "room / 40");
            case "fill" -> one("breath * room / (room + 30)", "breath - full / 30", "breath + load / 10", "breath / 2",
                    "99", "breath - 5", "room / second");
            default -> one("second / 5", "90 - second", "full / 3", "open * 50 + 10", "(second < 40) * 30", "999",
                    "load + 7", "breath + 3");
        };
    }

    private String either(int deep) {
        String text = both(deep);
        while (oneOf(8)) {
            text += " or " + both(deep);
        }
        return text;
    }

    private String both(int deep) {
        String text = negation(deep);
        while (oneOf(8)) {
            text += " and " + negation(deep);
        }
        return text;
    }

    private String negation(int deep) {
        return oneOf(8) ? "not " + negation(deep) : compared(deep);
    }

    private String compared(int deep) {
        return oneOf(4) ? sum(deep) + one("<", " <= ", "=", "<>", ">=", ">") + sum(deep) : sum(deep);
    }

    private String sum(int deep) {
        String text = product(deep);
        while (oneOf(3)) {
            text += one(" + ", "-", " - ") + product(deep);
        }
        return text;
    }

    private String product(int deep) {
        String text = value(deep);
        while (oneOf(3)) {
            text += one("*", " / ", " * ") + value(deep);
        }
        return text;
    }

    private String value(int deep) {
        if (deep > 0 && oneOf(4)) {
            return "(" + either(deep - 1) + ")";
        }
        return oneOf(3) ? "" + (oneOf(6) ? pick(0, 9999) : pick(0, 40))
                : one("full", "room", "open", "load", "second", "breath");
    }

    private String spoiled(String text) {
        StringBuilder spoiled = new StringBuilder(text);
        int times = pick(1, 2);
        for (int i = 0; i < times && spoiled.length() > 1; i++) {
            int at = pick(0, spoiled.length() - 1);
            String with = one("0", "9", "99", "a", ";", " ", "\n", "(", ")", "<", "=", ">", "not ", " or ", "bed", "load",
                    "\t", "A", "+", "((((((((", "turn", " a ", "law ", "\u00e9");
            if (oneOf(3)) {
                spoiled.deleteCharAt(at);
            } else {
                spoiled.replace(at, at + pick(0, 1), with);
            }
        }
        return oneOf(6) ? spoiled.substring(0, pick(0, spoiled.length())) : spoiled.toString();
    }

    // ---- calls

    private int blower() {
        int blowers = bed.count(2);
        return oneOf(15) ? pick(-1, 5) : pick(0, Math.max(0, blowers - 1));
    }

    private int bound() {
        return oneOf(15) ? pick(-2, 10001) : pick(0, bed.count(0));
    }

    private static long thrown(RuntimeException e) {
        return e instanceof IndexOutOfBoundsException ? THROWN_INDEX
                : e instanceof NoSuchElementException ? THROWN_ELEMENT : Long.MAX_VALUE;
    }

    private void look(int b, int what) {
        long got;
        long want;
        try {
            got = bed.look(b, what);
        } catch (RuntimeException e) {
            got = thrown(e);
        }
        try {
            want = model.look(b, what);
        } catch (RuntimeException e) {
            want = thrown(e);
        }
        same("look(" + b + ", " + what + ")", got, want);
    }

    private void lookAtAll() {
        for (int what = -1; what <= 14; what++) {
            same("count(" + what + ")", bed.count(what), model.count(what));
        }
        for (int b = 0; b < 4; b++) {
            for (int what = 0; what <= 4; what++) {
                look(b, what);
            }
        }
    }

    private void call() {
        int which = random.nextInt(36);
        if (which < 14) {
            change(which);
        } else if (which < 25) {
            foresee(which);
        } else {
            seeOrSeek(which);
        }
        if (oneOf(4)) {
            lookAtAll();
        }
    }

    private void change(int which) {
        int b = blower();
        int n;
        switch (which) {
            case 0, 1, 2, 3 -> {
                n = nearly(1, oneOf(3) ? 20 : 3);
                same("blow(" + b + ", " + n + ")", bed.blow(b, n), model.blow(b, n));
            }
            case 4, 5 -> {
                n = oneOf(10) ? nearly(1, 999) : nearly(1, 20);
                boolean open = oneOf(3);
                same("waits(" + n + ", " + open + ")", bed.waits(n, open), model.waits(n, open));
            }
            case 6, 7 -> {
                n = nearly(1, 8);
                same("pump(" + n + ")", bed.pump(n), model.pump(n));
            }
            case 8 -> {
                n = nearly(0, 4);
                same("patch(" + n + ")", bed.patch(n), model.patch(n));
            }
            case 9, 10 -> same("undo()", bed.undo(), model.undo());
            case 11 -> same("keep()", bed.keep(), model.keep());
            case 12 -> same("back()", bed.back(), model.back());
            default -> look(b, nearly(0, 4));
        }
    }

    private void foresee(int which) {
        int b = blower();
        int what = nearly(0, 1);
        int bound = bound();
        int n = oneOf(8) ? nearly(1, 3600) : nearly(1, 60);
        switch (which) {
            case 14 -> {
                int k = nearly(0, 3);
                same("ever(" + k + ")", bed.ever(k), model.ever(k));
            }
            case 15, 16 -> {
                int rule = nearly(0, 3);
                same("rule(" + rule + ")", bed.rule(rule), model.rule(rule));
            }
            case 17 -> same("fairest()", bed.fairest(), model.fairest());
            case 18 -> {
                int turns = oneOf(8) ? nearly(1, 2) : 1;
                for (int k = -1; k <= 2 * turns + 2; k++) {
                    same("best(" + turns + ", " + k + ")", bed.best(turns, k), model.best(turns, k));
                }
            }
            case 19 -> {
                int from = nearly(0, bed.count(0));
                same("lasts(" + from + ", " + bound + ")", bed.lasts(from, bound), model.lasts(from, bound));
            }
            case 20 -> {
                int seconds = nearly(0, oneOf(4) ? 60 : 9);
                same("firm(" + seconds + ", " + bound + ")", bed.firm(seconds, bound), model.firm(seconds, bound));
            }
            case 21, 22 -> {
                bound = Math.max(-1, bed.count(1) - pick(-1, 30));
                int k = nearly(0, 3);
                same("up(" + b + ", " + n + ", " + bound + ")", bed.up(b, n, bound), model.up(b, n, bound));
                same("upAt(" + b + ", " + n + ", " + bound + ", " + k + ")", bed.upAt(b, n, bound, k),
                        model.upAt(b, n, bound, k));
            }
            case 23 -> {
                bound = Math.max(-1, bed.count(1) - pick(-1, 30));
                same("cheapest(" + n + ", " + bound + ", " + what + ")", bed.cheapest(n, bound, what),
                        model.cheapest(n, bound, what));
            }
            default -> {
                int most = oneOf(8) ? nearly(1, 150) : nearly(1, 40);
                same("lend(" + most + ", 0)", bed.lend(most, 0), model.lend(most, 0));
                same("lend(" + most + ", " + what + ")", bed.lend(most, what), model.lend(most, what));
            }
        }
    }

    private void seeOrSeek(int which) {
        int b = blower();
        int what = nearly(0, 1);
        switch (which) {
            case 25 -> {
                for (int k = -1; k <= 19; k++) {
                    same("seek(" + k + ", " + what + ")", bed.seek(k, what), model.seek(k, what));
                }
            }
            case 26 -> same("mean(" + what + ")", bed.mean(what), model.mean(what));
            case 27, 28 -> {
                int n = nearly(1, 4);
                int full = nearly(0, Math.min(bed.count(0), 99));
                boolean atLeast = oneOf(2);
                same("cheek(" + b + ", " + n + ", " + full + ", " + atLeast + ")", bed.cheek(b, n, full, atLeast),
                        model.cheek(b, n, full, atLeast));
            }
            case 29 -> {
                int cheek = nearly(0, Math.max(0, bed.count(11) - 1));
                same("strike(" + cheek + ")", bed.strike(cheek), model.strike(cheek));
            }
            case 30 -> {
                int n = nearly(-1, bed.count(11));
                same("known(" + n + ")", bed.known(n) ? 1 : 0, model.known(n) ? 1 : 0);
            }
            case 31 -> same("fits()", bed.fits(), model.fits());
            case 32 -> {
                int seed = oneOf(9) ? -1 : random.nextInt(Integer.MAX_VALUE);
                int n = oneOf(8) ? nearly(1, 600) : nearly(1, 20);
                int bound = bound();
                same("chance(" + seed + ", " + n + ", " + bound + ")", bed.chance(seed, n, bound),
                        model.chance(seed, n, bound));
            }
            case 33 -> {
                int how = nearly(0, 4);
                int i = how == 4 ? nearly(0, 3) : oneOf(9) ? 1 : 0;
                int n = oneOf(8) ? nearly(0, 3600) : nearly(0, 30);
                same("tried(" + how + ", " + i + ", " + n + ")", bed.tried(how, i, n), model.tried(how, i, n));
            }
            case 34 -> {
                int kind = nearly(0, 2);
                int number = kind == 1 ? nearly(0, 999) : nearly(0, 1);
                same("law(" + kind + ", " + number + ")", bed.law(kind, number), model.law(kind, number));
            }
            default -> {
                int letters = pick(1, 26) << 25;
                same("named(" + what + ", " + letters + ")", bed.named(what, letters), model.named(what, letters));
            }
        }
    }
}
