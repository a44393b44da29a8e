import java.util.NoSuchElementException;

/** All that can be asked of a bed, as one text; it is used up by that. */
final class Whole {
    private final AirBed bed;
    private final StringBuilder told = new StringBuilder();

    private Whole(AirBed bed) {
        this.bed = bed;
    }

    static String of(AirBed bed) {
        Whole whole = new Whole(bed);
        whole.tellFault();
        whole.tellNow();
        whole.tellForesight();
        whole.add("tape", bed.feed(0x20202020, 0x20202020, 0x20202020, 0x20202020, 0x20202020));
        for (int i = 0; i <= 20; i++) {
            whole.add("undo", bed.undo());
            whole.tellNow();
        }
        whole.add("back", bed.back());
        whole.tellNow();
        return whole.told.toString();
    }

    private void add(String what, long... answers) {
        told.append(what);
        for (long answer : answers) {
            told.append(' ').append(answer);
        }
        told.append('\n');
    }

    private void tellFault() {
        add("fault", bed.fault(0), bed.fault(1));
    }

    private void tellNow() {
        for (int what = 0; what <= 13; what++) {
            add("count", what, bed.count(what));
        }
        for (int b = 0; b < 4; b++) {
            for (int what = 0; what < 5; what++) {
                add("look", b, what, look(b, what));
            }
        }
        add("leak", bed.leak());
        add("laws", bed.law(0, 0), bed.law(0, 1), bed.law(1, 7), bed.law(2, 0));
    }

    private long look(int blower, int what) {
        try {
            return bed.look(blower, what);
        } catch (IndexOutOfBoundsException | NoSuchElementException e) {
            return Long.MIN_VALUE;
        }
    }

    private void tellForesight() {
        for (int what = 0; what <= 3; what++) {
            add("ever", what, bed.ever(what));
            add("rule", what, bed.rule(what));
            add("tried", what, bed.tried(what, 0, 9));
        }
        for (int what = 0; what <= 5; what++) {
            add("best", what, bed.best(2, what));
        }
        add("night", bed.lasts(bed.count(1), 5), bed.firm(9, 5), bed.up(0, 60, 5), bed.cheapest(60, 5, 1));
        add("lend", bed.lend(99, 0), bed.lend(99, 1));
        for (int k = 0; k <= 18; k++) {
            add("seek", k, bed.seek(k, 0), bed.seek(k, 1));
        }
        add("mean", bed.mean(0), bed.mean(1));
        add("fits", bed.fits(), bed.known(-1) ? 1 : 0, bed.count(12), bed.fits());
        add("chance", bed.chance(5, 9, Math.max(0, bed.count(1) - 20)));
    }
}
