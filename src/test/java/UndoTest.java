/** Promises 31 to 34: undone, kept, back, counted. */
public final class UndoTest {
    private static final String TEXT = "bed 100 50;blower a 20 5 3 2 10 1 4;blower b 10 0 2 1 4 2 3;turn a 1;"
            + "law lose 1 + open;leak 1 2;leak 1 3;pump 7 5;trial s 50 1;";

    public static void main(String[] args) {
        undo();
        undoOfAll();
        images();
        counts();
        Checks.finish();
    }

    private static String all(AirBed bed) {
        StringBuilder all = new StringBuilder();
        for (int what = 0; what < 13; what++) {
            all.append(bed.count(what)).append(' ');
        }
        for (int b = 0; b < bed.count(2); b++) {
            for (int what = 0; what < 5; what++) {
                all.append(bed.look(b, what)).append(' ');
            }
        }
        return all.toString();
    }

    private static void undo() {
        AirBed bed = Checks.bed(TEXT);
        Checks.due("nothing", bed.undo(), -1);
        for (int i = 0; i < 25; i++) {
            bed.waits(1, false);
        }
        Checks.due("20 at most", bed.count(13), 20);
        for (int left = 19; left >= 0; left--) {
            Checks.due("left", bed.undo(), left);
            Checks.due("SECONDS", bed.count(7), 5 + left);
        }
        Checks.due("no more", bed.undo(), -1);
        Checks.due("SECONDS", bed.count(7), 5);
        bed.blow(0, 2);
        bed.blow(0, 9);
        bed.waits(0, false);
        bed.pump(9);
        bed.patch(9);
        Checks.due("what wasn't done can't be undone", bed.count(13), 1);
        bed.cheek(0, 1, 1, true);
        Checks.due("one call is one", bed.undo(), 0);
        Checks.due("CHEEKS stay", bed.count(11), 1);
    }

    private static void undoOfAll() {
        AirBed bed = Checks.bed(TEXT);
        String[] states = new String[7];
        for (int i = 0; i < 7; i++) {
            states[i] = all(bed);
            switch (i) {
                case 0 -> bed.blow(0, 3);
                case 1 -> bed.waits(3, true);
                case 2 -> bed.blow(1, 2);
                case 3 -> bed.pump(2);
                case 4 -> bed.patch(1);
                case 5 -> bed.patch(0);
                default -> bed.waits(20, false);
            }
        }
        for (int i = 6; i >= 0; i--) {
            Checks.due("undo " + i, bed.undo(), i);
            String so = all(bed);
            Checks.due(so + " is as it was: " + states[i], so.equals(states[i]), true);
        }
    }

    private static void images() {
        AirBed bed = Checks.bed(TEXT);
        Checks.due("none", bed.back(), -1);
        bed.blow(0, 1);
        bed.pump(1);
        bed.patch(1);
        String kept = all(bed);
        Checks.due("keep", bed.keep(), 3);
        Checks.due("keep leaves what can be undone", bed.count(13), 3);
        bed.blow(1, 1);
        bed.pump(2);
        bed.patch(0);
        Checks.due("back", bed.back(), 3);
        Checks.due("all is as it was", all(bed).equals(kept), true);
        Checks.due("nothing to undo", bed.undo(), -1);
        bed.waits(9, false);
        bed.cheek(0, 1, 1, true);
        Checks.due("once more", bed.back(), 3);
        Checks.due("CHEEKS stay", bed.count(11), 1);
        bed.waits(4, false);
        Checks.due("in place of the one ahead", bed.keep(), 7);
        bed.undo();
        Checks.due("undone", bed.count(7), 3);
        Checks.due("the IMAGE stays", bed.back(), 7);
        Checks.tell(bed, "bed 5;");
        Checks.due("none behind a TEXT", bed.back(), -1);
    }

    private static void counts() {
        AirBed bed = Checks.bed(TEXT);
        int[] first = {100, 50, 2, 1, 2, 1, 3, 0, 5, -1, 0, 0, 0, 0};
        for (int what = 0; what < first.length; what++) {
            Checks.due("count(" + what + ")", bed.count(what), first[what]);
        }
        bed.blow(1, 1);
        Checks.due("who blew last", bed.count(9), 1);
        bed.pump(1);
        Checks.due("the pump", bed.count(9), -1);
        bed.patch(1);
        Checks.due("bits", bed.count(10), 2);
        Checks.due("lent still", bed.count(8), 4);
        Checks.due("count(14)", bed.count(14), -1);
        Checks.due("count(-1)", bed.count(-1), -1);
    }
}
