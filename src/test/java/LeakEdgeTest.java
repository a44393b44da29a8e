/** The edges of SEEK, MEAN, CHEEKS, STRIKES, KNOWN, FITS and of promises 21, 22, 25 to 28: one method for each sentence. */
public final class LeakEdgeTest {
    private static final int MIN = Integer.MIN_VALUE;
    private static final int MAX = Integer.MAX_VALUE;
    /** Behind HANDS 40 or (LEAK 1) 37, one BREATH: 60 or 51, two: 75 or 60. */
    private static final String SEEN = "bed 100 50;blower a 20 5 2 2 9 1 0;blower b 20 5 20 1 0 0 0;leak 1 0;leak 1 3;"
            + "law lose open * 10;";

    public static void main(String[] args) {
        leaksNotPatched();
        greatestAboveZero();
        asFractions();
        firstByLeaksTrials();
        whatALookLeaves();
        threeAtOneLeak();
        noSoManyLooks();
        seekRefused();
        surestAndFastest();
        greatestWeightFirst();
        leastTerms();
        meanRefused();
        atLeastOrLess();
        fromTheTextOn();
        breathsOfACheek();
        cheekRefused();
        atMost24();
        strikeRefused();
        strikesStruck();
        struckByOneOfThese();
        knownByN();
        knownRefused();
        theBitBehindAll();
        Checks.finish();
    }

    private static void seek(AirBed bed, int... leaksAndTrials) {
        for (int k = 0; k < leaksAndTrials.length / 2; k++) {
            Checks.due("seek(" + k + ", 0)", bed.seek(k, 0), leaksAndTrials[2 * k]);
            Checks.due("seek(" + k + ", 1)", bed.seek(k, 1), leaksAndTrials[2 * k + 1]);
        }
    }

    // ---- SEEK, promise 21

    private static void leaksNotPatched() {
        Checks.says("LOOKS at LEAKS that aren't patched by TRIALS");
        AirBed bed = Checks.bed("leak 9 0;leak 5 0;leak 1 0;trial s 100 1;");
        seek(bed, 0, 0, 1, 0, 2, 0, -2, -2);
        bed.patch(1);
        seek(bed, 0, 0, 2, 0, -2, -2);
        bed.patch(0);
        seek(bed, 2, 0, -2, -2);
        bed.patch(2);
        seek(bed, -2, -2);
        bed.undo();
        seek(bed, 2, 0, -2, -2);
    }

    private static void greatestAboveZero() {
        Checks.says("that with the greatest WEIGHT times finds by SECONDS, above 0");
        seek(Checks.bed("leak 1 0;trial s 1 99;"), 0, 0, 0, 0, 0, 0, -2, -2);
        seek(Checks.bed("leak 99 0;trial s 100 1;"), 0, 0, -2, -2);
        // 10 * 50 by 5 is 100, 9 * 50 by 5 is 90, 10 * 100 by 9 is 111
        seek(Checks.bed("leak 10 0;leak 9 0;trial s 50 5;trial t 100 9;"), 0, 1, 1, 1, -2, -2);
        // 10 * 100 by 11 is 90.9
        seek(Checks.bed("leak 10 0;trial s 50 5;trial t 100 11;"), 0, 0, 0, 0, 0, 0, -2, -2);
    }

    private static void asFractions() {
        Checks.says("(as fractions)");
        // all are below 1: 1 by 3, 1 by 2
        Checks.due("1 by 2", Checks.bed("leak 1 0;trial s 1 3;trial t 1 2;").seek(0, 1), 1);
        // 99 * 67 of a hundred is 66.33, more than 66
        seek(Checks.bed("leak 66 0;leak 99 0;trial s 33 1;"), 1, 0, 1, 0, 0, 0);
        // 99 * 67 * 67 of ten thousand is 44.4411, more than 44
        seek(Checks.bed("leak 44 0;leak 99 0;trial s 33 1;"), 1, 0, 1, 0, 1, 0, 0, 0);
        // 7 by 3 is more than 9 by 4, and 14 by 6 isn't more than 7 by 3
        Checks.due("7 by 3", Checks.bed("leak 1 0;trial s 9 4;trial t 7 3;trial u 14 6;").seek(0, 1), 1);
        // 98 by 99 is less than 1, by one part of 99
        Checks.due("1 by 1", Checks.bed("leak 1 0;trial s 98 99;trial t 1 1;").seek(0, 1), 1);
    }

    private static void firstByLeaksTrials() {
        Checks.says("SEEK: of several the first by LEAKS, TRIALS");
        seek(Checks.bed("leak 5 0;leak 5 0;trial s 50 5;trial t 100 10;"), 0, 0, 1, 0, 0, 0, 1, 0, 0, 0, 1, 0, -2, -2);
        // 10 * 50 by 5 and 5 * 100 by 5
        seek(Checks.bed("leak 5 0;leak 10 0;trial s 50 5;trial t 100 10;"), 1, 0, 0, 0, 1, 0, 0, 0, 1, 0, 0, 0);
    }

    private static void whatALookLeaves() {
        Checks.says("a LOOK that fails leaves of the WEIGHT 100 less finds of a hundred");
        // 99, 50, 49.5, 25, 24.75, 12.5
        seek(Checks.bed("leak 50 0;leak 99 0;trial s 50 1;"), 1, 0, 0, 0, 1, 0, 0, 0, 1, 0, 0, 0, -2, -2);
        // 49.5 of 99 is less than 50, more than 49
        Checks.due("50", Checks.bed("leak 99 0;leak 50 0;trial s 50 1;").seek(1, 0), 1);
        Checks.due("49", Checks.bed("leak 99 0;leak 49 0;trial s 50 1;").seek(1, 0), 0);
        // by 100 nothing is left
        seek(Checks.bed("leak 99 0;leak 1 0;trial s 100 1;"), 0, 0, 1, 0, -2, -2);
        // by 99 a hundredth is left
        seek(Checks.bed("leak 99 0;leak 1 0;trial s 99 1;"), 0, 0, 1, 0, 0, 0, 1, 0, 0, 0, 1, 0, -2, -2);
        // by 1: 98.01, 97.0299
        Checks.due("98", Checks.bed("leak 99 0;leak 98 0;trial s 1 1;").seek(1, 0), 0);
        Checks.due("98 behind it", Checks.bed("leak 99 0;leak 98 0;trial s 1 1;").seek(2, 0), 1);
    }

    private static void threeAtOneLeak() {
        Checks.says("three at one LEAK at most");
        seek(Checks.bed("leak 99 0;leak 1 0;trial s 1 1;"), 0, 0, 0, 0, 0, 0, 1, 0, 1, 0, 1, 0, -2, -2);
        AirBed most = Checks.bed("leak 5 0;".repeat(6) + "trial s 1 1;trial t 1 2;trial u 1 3;");
        Checks.due("the 18th", most.seek(17, 0), 5);
        Checks.due("no 19th", most.seek(18, 0), -2);
        // three by whichever TRIALS
        seek(Checks.bed("leak 99 0;trial s 1 9;trial t 99 1;"), 0, 1, 0, 1, 0, 1, -2, -2);
    }

    private static void noSoManyLooks() {
        Checks.says("The k-th LOOK of SEEK; -2: there are no so many");
        Checks.due("no LEAKS", Checks.bed("trial s 50 1;").seek(0, 0), -2);
        Checks.due("no TRIALS", Checks.bed("leak 5 0;").seek(0, 0), -2);
        Checks.due("neither", new AirBed().seek(0, 1), -2);
        AirBed bed = Checks.bed("leak 5 0;trial s 50 1;");
        Checks.due("the last one", bed.seek(2, 1), 0);
        Checks.due("one more", bed.seek(3, 1), -2);
        Checks.due("k 18", bed.seek(18, 0), -2);
        Checks.due("k MAX", bed.seek(MAX, 0), -2);
    }

    private static void seekRefused() {
        Checks.says("seek: NONE: no such ones.");
        AirBed bed = Checks.bed("leak 5 0;trial s 50 1;");
        Checks.due("k -1", bed.seek(-1, 0), -1);
        Checks.due("k MIN", bed.seek(MIN, 1), -1);
        int[] whats = {-1, 2, MIN, MAX};
        for (int what : whats) {
            Checks.due("what " + what, bed.seek(0, what), -1);
            Checks.due("what " + what + " of none", new AirBed().seek(0, what), -1);
        }
        Checks.due("k -1 of none", new AirBed().seek(-1, 0), -1);
    }

    // ---- MEAN, promise 22

    private static void mean(String text, int above, int below) {
        AirBed bed = Checks.bed(text);
        Checks.due("mean(0) of " + text, bed.mean(0), above);
        Checks.due("mean(1) of " + text, bed.mean(1), below);
    }

    private static void surestAndFastest() {
        Checks.says("all LEAKS (patched ones too) by the TRIAL that finds 100 with the fewest SECONDS");
        mean("leak 1 0;trial s 99 1;trial t 100 7;", 7, 1);
        mean("leak 1 0;trial s 100 8;trial t 100 7;", 7, 1);
        mean("leak 1 0;trial s 100 7;trial t 100 8;", 7, 1);
        mean("leak 1 0;trial s 100 99;", 99, 1);
        mean("leak 99 0;trial s 100 1;", 1, 1);
        AirBed bed = Checks.bed("leak 1 0;leak 1 0;trial s 100 2;");
        bed.patch(0);
        bed.patch(1);
        Checks.due("patched ones too", bed.mean(0), 3);
        Checks.due("patched ones too", bed.mean(1), 1);
    }

    private static void greatestWeightFirst() {
        Checks.says("the greatest WEIGHT first: SECONDS till each times its WEIGHT in sum, by all WEIGHT");
        // 5 * 1 + 3 * 2 + 2 * 3 is 17 by 10
        mean("leak 2 0;leak 5 0;leak 3 0;trial s 100 1;", 17, 10);
        mean("leak 3 0;leak 2 0;leak 5 0;trial s 100 1;", 17, 10);
        // 2 * 1 + 2 * 2 + 1 * 3 is 9 by 5
        mean("leak 2 0;leak 1 0;leak 2 0;trial s 100 1;", 9, 5);
    }

    private static void leastTerms() {
        Checks.says("MEAN in least terms");
        mean("leak 2 0;leak 2 0;trial s 100 2;", 3, 1);
        mean("leak 2 0;leak 2 0;trial s 100 3;", 9, 2);
        // 99 * 99 * 21 by 594
        mean("leak 99 0;".repeat(6) + "trial s 100 99;", 693, 2);
        mean("leak 99 0;leak 98 0;trial s 100 97;", 97 * (99 + 196), 197);
    }

    private static void meanRefused() {
        Checks.says("mean: NONE: no such what, no LEAKS, no TRIAL that finds 100");
        AirBed bed = Checks.bed("leak 1 0;trial s 100 1;");
        int[] whats = {-1, 2, MIN, MAX};
        for (int what : whats) {
            Checks.due("mean(" + what + ")", bed.mean(what), -1);
        }
        mean("trial s 100 1;", -1, -1);
        mean("leak 1 0;", -1, -1);
        mean("leak 1 0;trial s 99 1;trial t 1 1;", -1, -1);
        mean("", -1, -1);
    }

    // ---- CHEEKS, promises 25 and 28

    private static int fits(String text, int blower, int n, int full, boolean atLeast) {
        AirBed bed = Checks.bed(text);
        Checks.due("a CHEEK", bed.cheek(blower, n, full, atLeast), 0);
        return bed.fits();
    }

    private static void atLeastOrLess() {
        Checks.says("behind n BREATHS of a BLOWER from the TEXT on FULL was at least so much, or less");
        int[] full = {0, 50, 51, 52, 59, 60, 61, 100, 9999};
        int[] atLeast = {7, 7, 7, 5, 5, 5, 0, 0, 0};
        for (int i = 0; i < full.length; i++) {
            Checks.due("at least " + full[i], fits(SEEN, 0, 1, full[i], true), atLeast[i]);
            Checks.due("less than " + full[i], fits(SEEN, 0, 1, full[i], false), 7 - atLeast[i]);
        }
        Checks.due("HOLDS at most", fits("bed 60 50;blower a 99 0 1 1 0 0 0;", 0, 1, 60, true), 1);
        Checks.due("HOLDS at most", fits("bed 60 50;blower a 99 0 1 1 0 0 0;", 0, 1, 61, true), 0);
    }

    private static void fromTheTextOn() {
        Checks.says("from the TEXT on");
        AirBed bed = Checks.bed(SEEN);
        bed.blow(0, 2);
        bed.patch(1);
        bed.waits(9, true);
        bed.cheek(0, 1, 60, false);
        Checks.due("not from now on, nothing patched", bed.fits(), 2);
        AirBed second = Checks.bed("bed 500 100;blower a 9 0 1 1 0 0 0;law lose second;");
        second.waits(9, false);
        second.cheek(0, 1, 109, true);
        Checks.due("SECOND 0", second.fits(), 1);
    }

    private static void breathsOfACheek() {
        Checks.says("(n BREATHS: one behind another, HANDS ahead, none DIZZY counted)");
        Checks.due("two, at least 75", fits(SEEN, 0, 2, 75, true), 5);
        Checks.due("two, at least 76", fits(SEEN, 0, 2, 76, true), 0);
        Checks.due("two, at least 60", fits(SEEN, 0, 2, 60, true), 7);
        Checks.due("two, at least 61", fits(SEEN, 0, 2, 61, true), 5);
        String many = "bed 9999;blower a 5 0 20 1 99 0 0;law lose 0;";
        Checks.due("TIMES", fits(many, 0, 20, 100, true), 1);
        Checks.due("TIMES", fits(many, 0, 20, 101, true), 0);
        Checks.due("RESTS 0 is fresh at each", fits("bed 9999;blower a 5 4 20 1 0 0 0;law lose 0;", 0, 20, 100, true), 1);
        Checks.due("LESS", fits("bed 9999;blower a 5 4 20 1 1 0 0;law lose 0;", 0, 20, 6, true), 1);
        Checks.due("LESS", fits("bed 9999;blower a 5 4 20 1 1 0 0;law lose 0;", 0, 20, 7, true), 0);
        String hands = "bed 500 400;blower a 5 0 9 1 9 9 0;law lose open * 10;";
        Checks.due("HANDS 9, OPEN, once", fits(hands, 0, 2, 320, true), 1);
        Checks.due("HANDS 9, OPEN, once", fits(hands, 0, 2, 321, true), 0);
    }

    private static void cheekRefused() {
        Checks.says("A CHEEK (n 1 .. 20, FULL 0 .. 9999): its number; NONE: no such ones, n above TIMES");
        AirBed bed = Checks.bed(SEEN);
        int[] blowers = {-1, 2, 4, MIN, MAX};
        for (int blower : blowers) {
            Checks.due("BLOWER " + blower, bed.cheek(blower, 1, 5, true), -1);
        }
        int[] numbers = {-1, 0, 21, MIN, MAX};
        for (int n : numbers) {
            Checks.due("n " + n, bed.cheek(1, n, 5, true), -1);
        }
        int[] full = {-1, 10000, MIN, MAX};
        for (int level : full) {
            Checks.due("FULL " + level, bed.cheek(1, 1, level, false), -1);
        }
        Checks.due("n above TIMES", bed.cheek(0, 3, 5, true), -1);
        Checks.due("none so far", bed.count(11), 0);
        Checks.due("n TIMES, FULL 9999", bed.cheek(0, 2, 9999, true), 0);
        Checks.due("n 20, FULL 0", bed.cheek(1, 20, 0, true), 1);
        Checks.due("n 1", bed.cheek(1, 1, 0, true), 2);
        Checks.due("without BLOWERS", new AirBed().cheek(0, 1, 0, true), -1);
    }

    private static void atMost24() {
        Checks.says("CHEEKS, at most 24, numbered from 0 on; NONE: or there are 24");
        AirBed bed = Checks.bed(SEEN);
        for (int i = 0; i < 24; i++) {
            Checks.due("CHEEK " + i, bed.cheek(0, 1, i, true), i);
        }
        Checks.due("a 25th CHEEK", bed.cheek(0, 1, 0, true), -1);
        Checks.due("a 25th, a STRIKE", bed.strike(0), -1);
        Checks.due("24", bed.count(11), 24);
        AirBed strikes = Checks.bed(SEEN);
        strikes.cheek(0, 1, 100, true);
        for (int i = 1; i < 24; i++) {
            Checks.due("STRIKE " + i, strikes.strike(i - 1), i);
        }
        Checks.due("a 25th STRIKE", strikes.strike(23), -1);
        Checks.due("a 25th, a CHEEK", strikes.cheek(0, 1, 0, true), -1);
        // 23 strikes 22 and so on: 1 counts
        Checks.due("the CHEEK is struck", strikes.fits(), 7);
        strikes.known(23);
        Checks.due("22 strikes 21 and so on: 1 doesn't", strikes.fits(), 0);
    }

    // ---- STRIKES, KNOWN, promises 26 and 27

    private static void strikeRefused() {
        Checks.says("A STRIKE: its number; NONE: no such CHEEK");
        AirBed bed = Checks.bed(SEEN);
        Checks.due("none told", bed.strike(0), -1);
        bed.cheek(0, 1, 5, true);
        int[] none = {-1, 1, 2, 24, MIN, MAX};
        for (int cheek : none) {
            Checks.due("strike(" + cheek + ")", bed.strike(cheek), -1);
        }
        Checks.due("strike(0)", bed.strike(0), 1);
        Checks.due("the same again", bed.strike(0), 2);
        Checks.due("a STRIKE", bed.strike(2), 3);
        Checks.due("not itself", bed.strike(4), -1);
    }

    private static void strikesStruck() {
        Checks.says("(a STRIKE may be STRUCK: then it doesn't count; asked from the last one on)");
        AirBed bed = Checks.bed(SEEN);
        bed.cheek(0, 1, 60, true);
        Checks.due("it counts", bed.fits(), 5);
        bed.strike(0);
        Checks.due("it is STRUCK", bed.fits(), 7);
        bed.strike(1);
        Checks.due("its STRIKE is STRUCK", bed.fits(), 5);
        bed.strike(2);
        Checks.due("that one's too", bed.fits(), 7);
        bed.strike(1);
        Checks.due("the first STRIKE again", bed.fits(), 5);
        bed.strike(0);
        Checks.due("the CHEEK again", bed.fits(), 7);
    }

    private static void struckByOneOfThese() {
        Checks.says("KNOWN by n (all at first): the first n that aren't STRUCK by one of these");
        AirBed bed = Checks.bed(SEEN);
        bed.cheek(0, 1, 60, true);
        bed.cheek(0, 1, 60, false);
        bed.strike(0);
        bed.strike(2);
        int[] fits = {7, 5, 0, 2, 0};
        for (int n = 0; n <= 4; n++) {
            Checks.due("known(" + n + ")", bed.known(n), true);
            Checks.due("fits by " + n, bed.fits(), fits[n]);
        }
        bed.known(-1);
        Checks.due("fits by all", bed.fits(), 0);
        bed.strike(1);
        Checks.due("those to come too", bed.fits(), 5);
    }

    private static void knownByN() {
        Checks.says("KNOWN by n from now on (-1: by all, also those to come): true");
        AirBed bed = Checks.bed(SEEN);
        Checks.due("all of none", bed.count(12), 0);
        bed.cheek(0, 1, 60, true);
        Checks.due("all at first", bed.count(12), 1);
        Checks.due("known(1)", bed.known(1), true);
        bed.cheek(0, 1, 60, false);
        Checks.due("1, not those to come", bed.count(12), 1);
        Checks.due("fits by 1", bed.fits(), 5);
        Checks.due("known(-1)", bed.known(-1), true);
        Checks.due("by all", bed.count(12), 2);
        Checks.due("fits by all", bed.fits(), 0);
        bed.strike(1);
        Checks.due("those to come", bed.count(12), 3);
        Checks.due("known(0)", bed.known(0), true);
        Checks.due("fits by none", bed.fits(), 7);
    }

    private static void knownRefused() {
        Checks.says("known: false: no such n");
        AirBed bed = Checks.bed(SEEN);
        Checks.due("known(1) of none", bed.known(1), false);
        Checks.due("known(0) of none", bed.known(0), true);
        bed.cheek(0, 1, 60, true);
        bed.cheek(0, 1, 60, true);
        Checks.due("by 0", bed.count(12), 0);
        int[] none = {-2, 3, 24, 25, MIN, MAX};
        for (int n : none) {
            Checks.due("known(" + n + ")", bed.known(n), false);
            Checks.due("by 0 still", bed.count(12), 0);
        }
        Checks.due("known(2)", bed.known(2), true);
    }

    private static void theBitBehindAll() {
        Checks.says("FITS: LEAKS (bits; the bit behind all: none) by which, as the real one, all KNOWN ones are so");
        Checks.due("a new object", new AirBed().fits(), 1);
        String a = "bed 500 100;blower a 50 0 9 1 99 0 0;law lose 0;";
        for (int leaks = 0; leaks <= 6; leaks++) {
            String text = a + "leak 1 7;".repeat(leaks);
            Checks.due(leaks + " LEAKS", Checks.bed(text).fits(), (2 << leaks) - 1);
            Checks.due(leaks + " LEAKS, none by this", fits(text, 0, 1, 150, true), 1 << leaks);
            Checks.due(leaks + " LEAKS, but none by this", fits(text, 0, 1, 150, false), (1 << leaks) - 1);
        }
        AirBed two = Checks.bed(a + "leak 1 7;leak 1 9;leak 1 0;");
        two.cheek(0, 1, 150, false);
        Checks.due("7 or 9", two.fits(), 3);
        two.cheek(0, 1, 143, true);
        Checks.due("7", two.fits(), 1);
        two.cheek(0, 2, 186, false);
        Checks.due("neither", two.fits(), 0);
    }
}
