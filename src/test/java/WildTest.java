import java.util.NoSuchElementException;
import java.util.Random;

/** Any arguments in any state: every call ends, and nothing but look throws, and it only what is told. */
public final class WildTest {
    private static final int[] EDGES = {0, 1, 2, 3, 4, 5, 6, 8, 9, 13, 18, 20, 21, 24, 60, 61, 99, 600, 601, 999, 1000,
        3600, 3601, 9999, 10000, 99999, 1 << 25, Integer.MAX_VALUE, Integer.MIN_VALUE, -1, -2, -3, 31, 32, 33, 64};
    private static final String[] TEXTS = {"",
        "bed 9999 9999;" + "blower a 99 20 20 9 99 9 99;blower b 1 0 20 1 0 0 0;blower c 5 1 1 1 1 1 1;"
            + "blower d 7 0 9 2 3 4 5;turn a 20;turn b 20;turn c 20;turn d 20;turn a 1;turn a 1;turn a 1;turn a 1;"
            + "pump 99 99;leak 99 99;leak 1 0;leak 1 0;leak 1 0;leak 1 0;leak 1 0;trial a 100 99;trial b 1 1;"
            + "trial c 50 3;slip 999;seed 99999;law lose load * load / second;law fill breath * breath;"
            + "law load full * second - room;",
        "bed 1;blower a 1 0 1 1 0 0 0;pump 1 1;leak 1 1;slip 1;",
        "bed 300 200;blower a 20 3 4 2 9 1 5;blower b 9 0 9 1 30 2 1;turn a 3;turn b 4;pump 9 9;leak 3 1;leak 4 2;"
            + "trial x 40 3;trial y 100 20;law load 40 - second;law lose open * 7 + load / 9;"};

    private final Random random;
    private final AirBed bed = new AirBed();

    private WildTest(long seed) {
        random = new Random(seed);
    }

    public static void main(String[] args) {
        for (long seed = 1; seed <= 120; seed++) {
            WildTest run = new WildTest(seed);
            for (int i = 0; i < 512; i++) {
                int which = run.random.nextInt(36);
                Checks.due("run " + seed + ", call " + i + " of " + which, run.call(which), 0);
            }
        }
        Checks.finish();
    }

    private int any() {
        int edge = EDGES[random.nextInt(EDGES.length)];
        return random.nextInt(8) == 0 ? random.nextInt() : random.nextInt(3) == 0 ? random.nextInt(12) : edge;
    }

    private boolean either() {
        return random.nextBoolean();
    }

    private int call(int which) {
        try {
            if (which < 18) {
                callFirst(which);
            } else {
                callOther(which);
            }
        } catch (IndexOutOfBoundsException | NoSuchElementException e) {
            boolean own = "no such blower".equals(e.getMessage()) || "no such what".equals(e.getMessage());
            return which == 4 && own ? 0 : 1;
        } catch (RuntimeException e) {
            return 2;
        }
        return 0;
    }

    private void callFirst(int which) {
        switch (which) {
            case 0 -> bed.feed(any(), any(), any(), any(), any());
            case 1 -> {
                if (random.nextInt(3) == 0) {
                    Checks.tell(bed, TEXTS[random.nextInt(TEXTS.length)]);
                } else {
                    bed.text(any());
                }
            }
            case 2 -> bed.fault(any());
            case 3 -> bed.named(any(), any());
            case 4 -> bed.look(any(), any());
            case 5 -> bed.law(any(), any());
            case 6 -> bed.blow(any(), any());
            case 7 -> bed.waits(any(), either());
            case 8 -> bed.pump(any());
            case 9 -> bed.patch(any());
            case 10 -> bed.leak();
            case 11 -> bed.ever(any());
            case 12 -> bed.best(any(), any());
            case 13 -> bed.lasts(any(), any());
            case 14 -> bed.firm(any(), any());
            case 15 -> bed.up(any(), any(), any());
            case 16 -> bed.upAt(any(), any(), any(), any());
            default -> bed.cheapest(any(), any(), any());
        }
    }

    private void callOther(int which) {
        switch (which) {
            case 18 -> bed.lend(any(), any());
            case 19 -> bed.seek(any(), any());
            case 20 -> bed.mean(any());
            case 21 -> bed.rule(any());
            case 22 -> bed.fairest();
            case 23 -> bed.cheek(any(), any(), any(), either());
            case 24 -> bed.strike(any());
            case 25 -> bed.known(any());
            case 26 -> bed.fits();
            case 27 -> bed.chance(any(), any(), any());
            case 28 -> bed.tried(any(), any(), any());
            case 29 -> bed.undo();
            case 30 -> bed.keep();
            case 31 -> bed.back();
            case 32 -> bed.waits(random.nextInt(999), either());
            case 33 -> bed.blow(random.nextInt(4), 1 + random.nextInt(3));
            case 34 -> bed.cheek(random.nextInt(4), 1 + random.nextInt(3), random.nextInt(99), either());
            default -> bed.count(any());
        }
    }
}
