import java.util.NoSuchElementException;
import java.util.function.ToLongFunction;

/** A call that is refused leaves all as it was: each of them, on two beds that are alike but for it. */
public final class RefusedTest {
    private static final int MIN = Integer.MIN_VALUE;
    private static final int MAX = Integer.MAX_VALUE;
    private static final String TEXT = "bed 300 200;blower a 20 3 4 2 9 1 5;blower b 9 1 9 1 30 2 1;turn a 3;turn b 4;"
            + "pump 9 9;leak 3 1;leak 4 2;trial x 40 3;trial y 100 20;slip 300;law load 40 - second;"
            + "law lose open * 7 + load / 9;law fill breath + full / 90;";

    private static boolean late = false;

    public static void main(String[] args) {
        tape();
        wholeTape();
        asked();
        breaths();
        waiting();
        pumping();
        patching();
        foreseen();
        nights();
        soughtAndSeen();
        otherwise();
        nothingThere();
        late = true;
        beyond99999();
        Checks.finish();
    }

    /** Somewhere in the midst: a text ahead, some on the tape, an IMAGE, CHEEKS, KNOWN, some to undo. */
    private static AirBed used() {
        AirBed bed = new AirBed();
        Checks.tell(bed, "bed 5 6;");
        Checks.tell(bed, TEXT);
        Checks.feed(bed, "bed 7 3;slip 5;      ");
        bed.blow(0, 4);
        bed.pump(2);
        bed.cheek(0, 2, 190, true);
        bed.cheek(1, 3, 200, false);
        bed.strike(0);
        bed.known(2);
        bed.keep();
        bed.patch(1);
        bed.blow(1, 2);
        for (int i = 0; i < 101 && late; i++) {
            bed.waits(i < 100 ? 999 : 82, false);
        }
        return bed;
    }

    private static void refused(String call, ToLongFunction<AirBed> asked, long due) {
        AirBed bed = used();
        Checks.due(call, asked.applyAsLong(bed), due);
        Checks.due("all stays behind " + call, Whole.of(bed).equals(Whole.of(used())), true);
        AirBed twice = used();
        asked.applyAsLong(twice);
        AirBed like = used();
        Checks.due("the tape stays behind " + call, twice.text(8), like.text(8));
        Checks.due("the tape's bytes stay behind " + call, twice.count(0), like.count(0));
    }

    private static void tape() {
        Checks.says("-2, and the TAPE stays");
        refused("text(-1)", bed -> bed.text(-1), -2);
        refused("text(MIN)", bed -> bed.text(MIN), -2);
        refused("text(41)", bed -> bed.text(41), -2);
        refused("text(MAX)", bed -> bed.text(MAX), -2);
        Checks.says("NONE for another what.");
        refused("fault(-1)", bed -> bed.fault(-1), -1);
        refused("fault(2)", bed -> bed.fault(2), -1);
        Checks.says("NONE: there is none such.");
        refused("named(0, 0)", bed -> bed.named(0, 0), -1);
        refused("named(1, 1 << 25)", bed -> bed.named(1, 1 << 25), -1);
        refused("named(2, 1 << 25)", bed -> bed.named(2, 1 << 25), -1);
    }

    private static AirBed full() {
        AirBed bed = used();
        for (int i = 0; i < 33; i++) {
            bed.feed(0x20202020, 0x20202020, 0x20202020, 0x20202020, 0x20202020);
        }
        return bed;
    }

    private static void wholeTape() {
        Checks.says("NONE, and none come, if it would have more than 700.");
        AirBed bed = full();
        Checks.due("feed", bed.feed(0x3b3b3b3b, 0x3b3b3b3b, 0x3b3b3b3b, 0x3b3b3b3b, 0x3b3b3b3b), -1);
        Checks.due("all stays", Whole.of(bed).equals(Whole.of(full())), true);
        AirBed twice = full();
        twice.feed(0x3b3b3b3b, 0x3b3b3b3b, 0x3b3b3b3b, 0x3b3b3b3b, 0x3b3b3b3b);
        Checks.due("all bytes stay", twice.text(700), 2);
        Checks.due("HOLDS", twice.count(0), 7);
    }

    private static long look(AirBed bed, int blower, int what) {
        try {
            return bed.look(blower, what);
        } catch (IndexOutOfBoundsException e) {
            return -101;
        } catch (NoSuchElementException e) {
            return -102;
        }
    }

    private static void asked() {
        Checks.says("IndexOutOfBoundsException: no such BLOWER. NoSuchElementException: no such what.");
        refused("look(-1, 0)", bed -> look(bed, -1, 0), -101);
        refused("look(2, 0)", bed -> look(bed, 2, 0), -101);
        refused("look(2, 9)", bed -> look(bed, 2, 9), -101);
        refused("look(0, -1)", bed -> look(bed, 0, -1), -102);
        refused("look(1, 5)", bed -> look(bed, 1, 5), -102);
        Checks.says("Long.MIN_VALUE: an ERROR, no such law, no such ones.");
        refused("law(-1, 0)", bed -> bed.law(-1, 0), Long.MIN_VALUE);
        refused("law(0, 2)", bed -> bed.law(0, 2), Long.MIN_VALUE);
        refused("law(1, 1000)", bed -> bed.law(1, 1000), Long.MIN_VALUE);
        refused("law(3, 0)", bed -> bed.law(3, 0), Long.MIN_VALUE);
        refused("count(-1)", bed -> bed.count(-1), -1);
        refused("count(14)", bed -> bed.count(14), -1);
    }

    private static void breaths() {
        Checks.says("-2: DIZZY ahead of one of them (nothing is done; asked first); NONE: no such ones");
        refused("blow(0, 1)", bed -> bed.blow(0, 1), -2);
        refused("blow(1, 8)", bed -> bed.blow(1, 8), -2);
        refused("blow(1, 20)", bed -> bed.blow(1, 20), -2);
        refused("blow(-1, 1)", bed -> bed.blow(-1, 1), -1);
        refused("blow(2, 1)", bed -> bed.blow(2, 1), -1);
        refused("blow(1, 0)", bed -> bed.blow(1, 0), -1);
        refused("blow(1, 21)", bed -> bed.blow(1, 21), -1);
        refused("blow(1, MIN)", bed -> bed.blow(1, MIN), -1);
    }

    private static void waiting() {
        Checks.says("waits: NONE: no such ones");
        refused("waits(0, false)", bed -> bed.waits(0, false), -1);
        refused("waits(0, true)", bed -> bed.waits(0, true), -1);
        refused("waits(-1, false)", bed -> bed.waits(-1, false), -1);
        refused("waits(1000, true)", bed -> bed.waits(1000, true), -1);
    }

    private static void pumping() {
        Checks.says("-2: not so many left (asked first); NONE: below 1");
        refused("pump(8)", bed -> bed.pump(8), -2);
        refused("pump(MAX)", bed -> bed.pump(MAX), -2);
        refused("pump(0)", bed -> bed.pump(0), -1);
        refused("pump(-1)", bed -> bed.pump(-1), -1);
    }

    private static void patching() {
        Checks.says("patch: NONE: no such one, it is.");
        refused("patch(-1)", bed -> bed.patch(-1), -1);
        refused("patch(1)", bed -> bed.patch(1), -1);
        refused("patch(2)", bed -> bed.patch(2), -1);
        refused("patch(32)", bed -> bed.patch(32), -1);
    }

    private static void foreseen() {
        Checks.says("NONE, -2 of what is foreseen");
        refused("ever(-1)", bed -> bed.ever(-1), -1);
        refused("ever(4)", bed -> bed.ever(4), -1);
        refused("best(0, 0)", bed -> bed.best(0, 0), -1);
        refused("best(3, 0)", bed -> bed.best(3, 0), -1);
        refused("best(1, -1)", bed -> bed.best(1, -1), -1);
        refused("best(1, 4)", bed -> bed.best(1, 4), -2);
        refused("best(2, 6)", bed -> bed.best(2, 6), -2);
        refused("rule(-1)", bed -> bed.rule(-1), -1);
        refused("rule(4)", bed -> bed.rule(4), -1);
    }

    private static void nights() {
        Checks.says("NONE, -2 of a night");
        refused("lasts(-1, 0)", bed -> bed.lasts(-1, 0), -1);
        refused("lasts(301, 0)", bed -> bed.lasts(301, 0), -1);
        refused("lasts(9, 10000)", bed -> bed.lasts(9, 10000), -1);
        refused("firm(61, 0)", bed -> bed.firm(61, 0), -1);
        refused("firm(1, 301)", bed -> bed.firm(1, 301), -2);
        refused("up(2, 9, 9)", bed -> bed.up(2, 9, 9), -1);
        refused("up(0, 0, 9)", bed -> bed.up(0, 0, 9), -1);
        refused("up(0, 9, 300)", bed -> bed.up(0, 9, 300), -2);
        refused("upAt(0, 9, 9, -1)", bed -> bed.upAt(0, 9, 9, -1), -1);
        refused("upAt(0, 9, 9, 9)", bed -> bed.upAt(0, 9, 9, 9), -2);
        refused("cheapest(9, 9, 2)", bed -> bed.cheapest(9, 9, 2), -1);
        refused("cheapest(9, 300, 0)", bed -> bed.cheapest(9, 300, 0), -2);
        refused("lend(6, 0)", bed -> bed.lend(6, 0), -1);
        refused("lend(601, 0)", bed -> bed.lend(601, 0), -1);
        refused("lend(99, 2)", bed -> bed.lend(99, 2), -1);
    }

    private static void soughtAndSeen() {
        Checks.says("NONE, -2, false of what is sought and seen");
        refused("seek(-1, 0)", bed -> bed.seek(-1, 0), -1);
        refused("seek(0, 2)", bed -> bed.seek(0, 2), -1);
        refused("seek(18, 0)", bed -> bed.seek(18, 0), -2);
        refused("mean(2)", bed -> bed.mean(2), -1);
        refused("cheek(2, 1, 5, true)", bed -> bed.cheek(2, 1, 5, true), -1);
        refused("cheek(0, 5, 5, true)", bed -> bed.cheek(0, 5, 5, true), -1);
        refused("cheek(0, 0, 5, true)", bed -> bed.cheek(0, 0, 5, true), -1);
        refused("cheek(1, 1, 10000, true)", bed -> bed.cheek(1, 1, 10000, true), -1);
        refused("cheek(1, 1, -1, false)", bed -> bed.cheek(1, 1, -1, false), -1);
        refused("strike(-1)", bed -> bed.strike(-1), -1);
        refused("strike(3)", bed -> bed.strike(3), -1);
        refused("known(-2)", bed -> bed.known(-2) ? 1 : 0, 0);
        refused("known(4)", bed -> bed.known(4) ? 1 : 0, 0);
    }

    private static void otherwise() {
        Checks.says("NONE of what is tried");
        refused("chance(-1, 1, 0)", bed -> bed.chance(-1, 1, 0), -1);
        refused("chance(0, 601, 0)", bed -> bed.chance(0, 601, 0), -1);
        refused("tried(0, 1, 1)", bed -> bed.tried(0, 1, 1), -1);
        refused("tried(4, 2, 1)", bed -> bed.tried(4, 2, 1), -1);
        refused("tried(5, 0, 1)", bed -> bed.tried(5, 0, 1), -1);
        refused("tried(3, 0, 3601)", bed -> bed.tried(3, 0, 3601), -1);
    }

    private static void untold(String call, ToLongFunction<AirBed> asked, long due) {
        AirBed bed = new AirBed();
        Checks.due(call, asked.applyAsLong(bed), due);
        Checks.due("a new object stays so behind " + call, Whole.of(bed).equals(Whole.of(new AirBed())), true);
    }

    private static void nothingThere() {
        Checks.says("A TEXT without LINES; an empty TAPE: all that can't be");
        untold("text(1)", bed -> bed.text(1), -2);
        untold("look(0, 0)", bed -> look(bed, 0, 0), -101);
        untold("law(0, 0)", bed -> bed.law(0, 0), Long.MIN_VALUE);
        untold("blow(0, 1)", bed -> bed.blow(0, 1), -1);
        untold("pump(1)", bed -> bed.pump(1), -1);
        untold("patch(0)", bed -> bed.patch(0), -1);
        untold("ever(0)", bed -> bed.ever(0), -1);
        untold("best(1, 0)", bed -> bed.best(1, 0), -1);
        untold("up(0, 1, 0)", bed -> bed.up(0, 1, 0), -1);
        untold("cheapest(1, 0, 0)", bed -> bed.cheapest(1, 0, 0), -2);
        untold("lend(1, 0)", bed -> bed.lend(1, 0), -1);
        untold("seek(0, 0)", bed -> bed.seek(0, 0), -2);
        untold("mean(0)", bed -> bed.mean(0), -1);
        untold("fairest()", AirBed::fairest, -1);
        untold("cheek(0, 1, 0, true)", bed -> bed.cheek(0, 1, 0, true), -1);
        untold("strike(0)", bed -> bed.strike(0), -1);
        untold("known(1)", bed -> bed.known(1) ? 1 : 0, 0);
        untold("tried(3, 0, 0)", bed -> bed.tried(3, 0, 0), -1);
        untold("undo()", AirBed::undo, -1);
        untold("back()", AirBed::back, -1);
    }

    private static void beyond99999() {
        Checks.says("NONE: SECONDS would be above 99999");
        Checks.due("99996", used().count(7), 99996);
        refused("blow(0, 2)", bed -> bed.blow(0, 2), -1);
        refused("blow(0, 5)", bed -> bed.blow(0, 5), -2);
        refused("blow(1, 4)", bed -> bed.blow(1, 4), -1);
        refused("waits(4, false)", bed -> bed.waits(4, false), -1);
        refused("waits(999, true)", bed -> bed.waits(999, true), -1);
        refused("pump(4)", bed -> bed.pump(4), -1);
        refused("pump(8)", bed -> bed.pump(8), -2);
    }
}
