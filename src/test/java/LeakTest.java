/** Promises 21, 22, 25 to 28: seeking the leak, the mean of it, what was seen and what fits. */
public final class LeakTest {
    public static void main(String[] args) {
        seek();
        mean();
        cheeks();
        fits();
        strikes();
        known();
        Checks.finish();
    }

    private static void seek() {
        AirBed bed = Checks.bed("leak 2 0;leak 1 0;leak 2 0;trial s 50 2;trial t 100 4;");
        int[] leaks = {0, 2, 0, 1, 2, 0, 1, 2, 1, -2};
        for (int k = 0; k < leaks.length; k++) {
            Checks.due("seek(" + k + ", 0)", bed.seek(k, 0), leaks[k]);
            Checks.due("seek(" + k + ", 1)", bed.seek(k, 1), leaks[k] < 0 ? -2 : 0);
        }
        bed.patch(0);
        bed.patch(2);
        Checks.due("patched", bed.seek(0, 0), 1);
        Checks.due("patched", bed.seek(2, 0), 1);
        Checks.due("patched", bed.seek(3, 0), -2);
        Checks.due("k -1", bed.seek(-1, 0), -1);
        Checks.due("no such what", bed.seek(0, 2), -1);
        Checks.due("no such what", bed.seek(0, -1), -1);
        Checks.due("far", bed.seek(Integer.MAX_VALUE, 0), -2);
        AirBed sure = Checks.bed("leak 5 0;trial t 100 4;");
        Checks.due("found", sure.seek(0, 0), 0);
        Checks.due("nothing is left", sure.seek(1, 0), -2);
        AirBed better = Checks.bed("leak 99 0;leak 98 0;trial s 33 10;trial t 34 10;trial u 67 20;");
        Checks.due("the better TRIAL", better.seek(0, 1), 1);
        // 99 * 66 of a hundred is 65.34, below 98
        Checks.due("the other LEAK", better.seek(1, 0), 1);
        Checks.due("no TRIALS", Checks.bed("leak 5 0;").seek(0, 0), -2);
        Checks.due("no LEAKS", Checks.bed("trial t 100 4;").seek(0, 0), -2);
        AirBed most = Checks.bed("leak 1 0;".repeat(6) + "trial t 1 1;");
        Checks.due("18 LOOKS", most.seek(17, 0), 5);
        Checks.due("no 19th", most.seek(18, 0), -2);
    }

    private static void mean() {
        AirBed bed = Checks.bed("leak 1 0;leak 3 0;leak 2 0;trial a 100 6;trial b 100 4;trial c 99 1;");
        Checks.due("40 by 6", bed.mean(0), 20);
        Checks.due("40 by 6", bed.mean(1), 3);
        bed.patch(1);
        Checks.due("patched ones too", bed.mean(0), 20);
        Checks.due("no such what", bed.mean(2), -1);
        Checks.due("no such what", bed.mean(-1), -1);
        Checks.due("no LEAKS", Checks.bed("trial a 100 6;").mean(0), -1);
        Checks.due("none finds 100", Checks.bed("leak 1 1;trial a 99 6;").mean(0), -1);
        AirBed like = Checks.bed("leak 2 0;leak 2 0;trial a 100 5;");
        Checks.due("like ones", like.mean(0), 15);
        Checks.due("like ones", like.mean(1), 2);
    }

    private static AirBed seen() {
        return Checks.bed("bed 100 50;blower a 20 5 2 2 9 1 0;blower b 20 5 20 1 0 0 0;leak 1 0;leak 1 3;"
                + "law lose open * 10;");
    }

    private static void cheeks() {
        AirBed bed = seen();
        Checks.due("no such BLOWER", bed.cheek(2, 1, 5, true), -1);
        Checks.due("no such BLOWER", bed.cheek(-1, 1, 5, true), -1);
        Checks.due("n 0", bed.cheek(0, 0, 5, true), -1);
        Checks.due("n above TIMES", bed.cheek(0, 3, 5, true), -1);
        Checks.due("n 21", bed.cheek(1, 21, 5, true), -1);
        Checks.due("FULL -1", bed.cheek(0, 1, -1, true), -1);
        Checks.due("FULL 10000", bed.cheek(0, 1, 10000, true), -1);
        Checks.due("none so far", bed.count(11), 0);
        Checks.due("n 20", bed.cheek(1, 20, 9999, false), 0);
        Checks.due("strike", bed.strike(0), 1);
        for (int i = 2; i < 23; i++) {
            Checks.due("number " + i, bed.cheek(0, 2, 0, true), i);
        }
        Checks.due("the 24th", bed.strike(22), 23);
        Checks.due("no 25th", bed.cheek(0, 2, 0, true), -1);
        Checks.due("no 25th", bed.strike(0), -1);
        Checks.due("24", bed.count(11), 24);
        Checks.due("nothing to undo", bed.undo(), -1);
    }

    private static int fitsOne(int blower, int n, int full, boolean atLeast) {
        AirBed bed = seen();
        bed.cheek(blower, n, full, atLeast);
        return bed.fits();
    }

    private static void fits() {
        Checks.due("no CHEEKS", seen().fits(), 7);
        // behind HANDS 40 or 37; one BREATH: 60 or 51, two: 75 or 60
        Checks.due("at least 60", fitsOne(0, 1, 60, true), 5);
        Checks.due("less than 60", fitsOne(0, 1, 60, false), 2);
        Checks.due("at least 61", fitsOne(0, 1, 61, true), 0);
        Checks.due("at least 51", fitsOne(0, 1, 51, true), 7);
        Checks.due("two, at least 61", fitsOne(0, 2, 61, true), 5);
        Checks.due("two, less than 60", fitsOne(0, 2, 60, false), 0);
        Checks.due("two, less than 61", fitsOne(0, 2, 61, false), 2);
        // RESTS 0: 50 + 20 + 20 and 50 - 3 + 20 - 3 + 20
        Checks.due("fresh at each", fitsOne(1, 2, 90, true), 5);
        Checks.due("fresh at each", fitsOne(1, 2, 84, true), 7);
        AirBed bed = seen();
        bed.blow(0, 2);
        bed.patch(1);
        bed.cheek(0, 1, 60, false);
        Checks.due("from the TEXT on, nothing patched", bed.fits(), 2);
        Checks.due("none alone", Checks.bed("blower a 20 5 2 2 9 1 0;").fits(), 1);
        AirBed time = Checks.bed("bed 500 100;blower a 9 0 1 2 0 3 0;law lose second;");
        time.waits(50, false);
        time.cheek(0, 1, 99, true);
        Checks.due("SECONDS from the TEXT on", time.fits(), 1);
        time.cheek(0, 1, 100, true);
        Checks.due("SECONDS from the TEXT on", time.fits(), 0);
    }

    private static void strikes() {
        AirBed bed = seen();
        bed.cheek(0, 1, 60, false);
        bed.cheek(0, 1, 51, true);
        Checks.due("two", bed.fits(), 2);
        Checks.due("strike(2)", bed.strike(2), -1);
        Checks.due("strike(-1)", bed.strike(-1), -1);
        Checks.due("strike(0)", bed.strike(0), 2);
        Checks.due("0 is struck", bed.fits(), 7);
        Checks.due("strike(2)", bed.strike(2), 3);
        Checks.due("the STRIKE is struck", bed.fits(), 2);
        Checks.due("strike(3)", bed.strike(3), 4);
        Checks.due("that one too", bed.fits(), 7);
        Checks.due("strike(0) again", bed.strike(0), 5);
        Checks.due("strike(4)", bed.strike(4), 6);
        Checks.due("0 is struck by the other one", bed.fits(), 7);
    }

    private static void known() {
        AirBed bed = seen();
        bed.cheek(0, 1, 60, false);
        bed.strike(0);
        Checks.due("by all", bed.count(12), 2);
        Checks.due("known(1)", bed.known(1), true);
        Checks.due("the STRIKE isn't known", bed.fits(), 2);
        Checks.due("by 1", bed.count(12), 1);
        Checks.due("known(0)", bed.known(0), true);
        Checks.due("nothing is known", bed.fits(), 7);
        Checks.due("known(3)", bed.known(3), false);
        Checks.due("known(-2)", bed.known(-2), false);
        Checks.due("by 0 still", bed.count(12), 0);
        Checks.due("known(2)", bed.known(2), true);
        bed.strike(1);
        Checks.due("by 2 still", bed.count(12), 2);
        Checks.due("0 is struck", bed.fits(), 7);
        Checks.due("known(-1)", bed.known(-1), true);
        Checks.due("the STRIKE is struck", bed.fits(), 2);
        bed.strike(2);
        Checks.due("those to come too", bed.fits(), 7);
        Checks.due("by 4", bed.count(12), 4);
    }
}
