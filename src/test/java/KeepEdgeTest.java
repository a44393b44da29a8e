/** The edges of what can be undone, of the IMAGE and of promises 31 to 34: one method for each sentence. */
public final class KeepEdgeTest {
    private static final String TEXT = "bed 100 50;blower a 20 5 3 2 10 1 4;blower b 10 0 2 1 4 2 3;turn a 1;"
            + "law lose 1 + open;leak 1 2;leak 1 3;pump 7 5;trial s 50 1;";

    public static void main(String[] args) {
        noneToUndo();
        twentyAtMost();
        wrappedAround();
        whatCanBeUndone();
        whatCannotBeUndone();
        theLatestFirst();
        noImage();
        inPlaceOfOneAhead();
        backToTheImage();
        backAgainAndAgain();
        imageAndUndo();
        cheeksStay();
        counts();
        countRefused();
        aRunOf512();
        Checks.finish();
    }

    private static String now(AirBed bed) {
        StringBuilder all = new StringBuilder();
        for (int what = 0; what < 13; what++) {
            all.append(bed.count(what)).append(' ');
        }
        for (int b = 0; b < bed.count(2); b++) {
            for (int what = 0; what < 5; what++) {
                all.append(bed.look(b, what)).append(' ');
            }
        }
        return all.toString();
    }

    private static void noneToUndo() {
        Checks.says("The latest is undone: how many are left; NONE: none.");
        Checks.due("a new object", new AirBed().undo(), -1);
        AirBed bed = Checks.bed(TEXT);
        Checks.due("behind a text", bed.undo(), -1);
        bed.waits(1, false);
        bed.waits(1, false);
        Checks.due("one is left", bed.undo(), 1);
        Checks.due("none is left", bed.undo(), 0);
        Checks.due("none", bed.undo(), -1);
        Checks.due("none again", bed.undo(), -1);
        Checks.due("SECONDS", bed.count(7), 0);
        Checks.due("FULL", bed.count(1), 50);
    }

    private static void twentyAtMost() {
        Checks.says("(20 at most)");
        for (int calls = 19; calls <= 22; calls++) {
            AirBed bed = Checks.bed(TEXT);
            for (int i = 0; i < calls; i++) {
                bed.waits(1, false);
            }
            int kept = Math.min(calls, 20);
            Checks.due("of " + calls, bed.count(13), kept);
            for (int left = kept - 1; left >= 0; left--) {
                Checks.due("left of " + calls, bed.undo(), left);
            }
            Checks.due("no more of " + calls, bed.undo(), -1);
            Checks.due("SECONDS of " + calls, bed.count(7), calls - kept);
        }
    }

    private static void wrappedAround() {
        Checks.says("the latest first (20 at most)");
        AirBed bed = Checks.bed(TEXT);
        for (int i = 0; i < 47; i++) {
            bed.waits(1, false);
        }
        for (int i = 0; i < 13; i++) {
            bed.undo();
        }
        Checks.due("seven are left", bed.count(13), 7);
        for (int i = 0; i < 9; i++) {
            bed.waits(10, false);
        }
        Checks.due("16", bed.count(13), 16);
        for (int i = 8; i >= 0; i--) {
            bed.undo();
            Checks.due("SECONDS", bed.count(7), 34 + 10 * i);
        }
        for (int i = 6; i >= 0; i--) {
            Checks.due("left", bed.undo(), i);
            Checks.due("SECONDS", bed.count(7), 27 + i);
        }
        Checks.due("no more", bed.undo(), -1);
    }

    private static void whatCanBeUndone() {
        Checks.says("BREATHS, waiting, pumping, patches by call can be undone");
        for (int which = 0; which < 6; which++) {
            AirBed bed = Checks.bed(TEXT);
            bed.blow(1, 1);
            String so = now(bed);
            switch (which) {
                case 0 -> bed.blow(0, 3);
                case 1 -> bed.blow(1, 1);
                case 2 -> bed.waits(99, true);
                case 3 -> bed.pump(5);
                case 4 -> bed.patch(0);
                default -> bed.patch(1);
            }
            Checks.due("it is otherwise " + which, now(bed).equals(so), false);
            Checks.due("two", bed.count(13), 2);
            Checks.due("undo " + which, bed.undo(), 1);
            Checks.due("it is as it was " + which, now(bed).equals(so), true);
        }
    }

    private static void whatCannotBeUndone() {
        Checks.says("BREATHS, waiting, pumping, patches by call can be undone: nothing else is");
        AirBed bed = Checks.bed(TEXT);
        bed.waits(1, false);
        bed.cheek(0, 1, 5, true);
        bed.strike(0);
        bed.known(1);
        bed.keep();
        bed.feed(0, 0, 0, 0, 0);
        bed.ever(0);
        bed.tried(1, 0, 9);
        Checks.due("one", bed.count(13), 1);
        Checks.due("undo", bed.undo(), 0);
        Checks.due("SECONDS", bed.count(7), 0);
        Checks.due("CHEEKS stay", bed.count(11), 2);
        Checks.due("KNOWN stays", bed.count(12), 1);
        Checks.due("the IMAGE stays", bed.back(), 1);
        Checks.due("back isn't undone", bed.undo(), -1);
    }

    private static void theLatestFirst() {
        Checks.says("The latest is undone");
        AirBed bed = Checks.bed(TEXT);
        bed.blow(0, 2);
        bed.patch(1);
        bed.pump(3);
        bed.blow(1, 2);
        bed.undo();
        Checks.due("BREATHS of b", bed.look(1, 2), 0);
        Checks.due("the pump went last: HANDS", bed.count(9), -1);
        Checks.due("lent still", bed.count(8), 2);
        bed.undo();
        Checks.due("lent still", bed.count(8), 5);
        Checks.due("a blew last", bed.count(9), 0);
        Checks.due("patched", bed.count(10), 2);
        bed.undo();
        Checks.due("not patched", bed.count(10), 0);
        Checks.due("BREATHS of a", bed.look(0, 1), 2);
        bed.undo();
        Checks.due("nobody blew", bed.count(9), -1);
        Checks.due("BREATHS of a", bed.look(0, 1), 0);
    }

    private static void noImage() {
        Checks.says("back: NONE: there is none");
        AirBed bed = new AirBed();
        Checks.due("a new object", bed.back(), -1);
        Checks.due("keep", bed.keep(), 0);
        Checks.due("back", bed.back(), 0);
        Checks.due("text(0)", bed.text(0), 0);
        Checks.due("behind a text", bed.back(), -1);
        AirBed told = Checks.bed(TEXT);
        told.waits(3, false);
        Checks.due("back", told.back(), -1);
        Checks.due("all stays", told.count(7), 3);
        Checks.due("undo too", told.count(13), 1);
    }

    private static void inPlaceOfOneAhead() {
        Checks.says("An IMAGE is kept (in place of one ahead): how many SECONDS went by.");
        AirBed bed = Checks.bed(TEXT);
        Checks.due("SECOND 0", bed.keep(), 0);
        bed.waits(7, false);
        Checks.due("SECOND 7", bed.keep(), 7);
        bed.waits(4, false);
        Checks.due("the later one", bed.back(), 7);
        Checks.due("keep again", bed.keep(), 7);
        Checks.due("back again", bed.back(), 7);
    }

    private static void backToTheImage() {
        Checks.says("All (but CHEEKS) is as in the IMAGE (nothing to undo then): how many SECONDS went by");
        AirBed bed = Checks.bed(TEXT);
        bed.blow(0, 3);
        bed.pump(2);
        bed.patch(0);
        String so = now(bed);
        Checks.due("keep", bed.keep(), 8);
        Checks.due("keep leaves what can be undone", bed.count(13), 3);
        bed.waits(50, true);
        bed.blow(1, 2);
        bed.blow(0, 3);
        bed.pump(3);
        bed.patch(1);
        Checks.due("it is otherwise", now(bed).equals(so), false);
        Checks.due("back", bed.back(), 8);
        Checks.due("it is as it was", now(bed).equals(so), true);
        Checks.due("nothing to undo", bed.count(13), 0);
        Checks.due("nothing to undo", bed.undo(), -1);
        Checks.due("it is as it was", now(bed).equals(so), true);
        Checks.due("DIZZY as it was", bed.blow(0, 1), -2);
        Checks.due("patched as it was", bed.patch(0), -1);
        Checks.due("lent as it was", bed.pump(4), -2);
    }

    private static void backAgainAndAgain() {
        Checks.says("as in the IMAGE");
        AirBed bed = Checks.bed(TEXT);
        bed.waits(5, false);
        bed.keep();
        String so = now(bed);
        for (int i = 0; i < 3; i++) {
            bed.blow(0, 1 + i);
            bed.patch(i % 2);
            Checks.due("back " + i, bed.back(), 5);
            Checks.due("it is as it was", now(bed).equals(so), true);
        }
        Checks.due("back at once", bed.back(), 5);
    }

    private static void imageAndUndo() {
        Checks.says("(nothing to undo then)");
        AirBed bed = Checks.bed(TEXT);
        for (int i = 0; i < 25; i++) {
            bed.waits(1, false);
        }
        bed.keep();
        bed.undo();
        Checks.due("undone ahead of the IMAGE", bed.count(7), 24);
        Checks.due("the IMAGE stays", bed.back(), 25);
        Checks.due("none to undo", bed.undo(), -1);
        bed.waits(1, false);
        Checks.due("one to undo", bed.count(13), 1);
        Checks.due("undo", bed.undo(), 0);
        Checks.due("SECONDS", bed.count(7), 25);
    }

    private static void cheeksStay() {
        Checks.says("An IMAGE keeps all but CHEEKS.");
        AirBed bed = Checks.bed(TEXT);
        bed.cheek(0, 1, 5, true);
        bed.keep();
        bed.cheek(0, 1, 90, true);
        bed.strike(0);
        int fits = bed.fits();
        bed.waits(9, false);
        Checks.due("back", bed.back(), 0);
        Checks.due("three CHEEKS", bed.count(11), 3);
        Checks.due("FITS", bed.fits(), fits);
    }

    private static void counts() {
        Checks.says("0 HOLDS, 1 FULL, 2 BLOWERS, 3 TURNS, 4 LEAKS, 5 TRIALS, 6 KNOTS, 7 SECONDS, 8 SECONDS the pump is lent still, 9 who blew last (NONE: nobody, the pump), 10 LEAKS patched (bits), 11 CHEEKS, 12 by how many it is KNOWN, 13 what can be undone");
        String most = "bed 9999 9999;blower a 1 0 1 1 0 0 0;blower b 1 0 1 1 0 0 0;blower c 1 0 1 1 0 0 0;"
                + "blower d 1 0 1 1 0 0 0;" + "turn a 1;".repeat(8) + "leak 1 1;".repeat(6) + "trial a 1 1;trial b 1 1;"
                + "trial c 1 1;pump 1 99;law lose 1" + "*1".repeat(31) + ";law load 1;";
        int[] due = {9999, 9999, 4, 8, 6, 3, 64, 0, 99, -1, 0, 0, 0, 0};
        AirBed bed = Checks.bed(most);
        for (int what = 0; what < due.length; what++) {
            Checks.due("count(" + what + ")", bed.count(what), due[what]);
        }
        bed.blow(3, 1);
        Checks.due("the last BLOWER", bed.count(9), 3);
        bed.blow(0, 1);
        Checks.due("the first BLOWER", bed.count(9), 0);
        bed.waits(9, false);
        Checks.due("waiting is nobody", bed.count(9), 0);
        bed.pump(99);
        Checks.due("the pump", bed.count(9), -1);
        Checks.due("none lent still", bed.count(8), 0);
        for (int leak = 5; leak >= 0; leak--) {
            bed.patch(leak);
        }
        Checks.due("all patched", bed.count(10), 63);
        Checks.due("to be undone", bed.count(13), 10);
    }

    private static void countRefused() {
        Checks.says("count: NONE for another what.");
        AirBed bed = Checks.bed(TEXT);
        int[] none = {-1, 14, Integer.MIN_VALUE, Integer.MAX_VALUE};
        for (int what : none) {
            Checks.due("count(" + what + ")", bed.count(what), -1);
        }
    }

    private static void aRunOf512() {
        Checks.says("An object is used for at most 512 calls after it has been made");
        AirBed bed = new AirBed();
        String text = "bed 9999 9999;law lose 1;";
        int calls = 0;
        Checks.due("lines", Checks.tell(bed, text), 2);
        calls += 3;
        for (; calls < 511; calls++) {
            bed.waits(1, false);
        }
        Checks.due("the 512th", bed.count(1), 9999 - 508);
    }
}
