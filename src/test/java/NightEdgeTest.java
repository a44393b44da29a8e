/** The edges of LASTS, FIRM, UP, CHEAPEST, LEND, TRIED and of promises 15 to 20, 29, 30: one method for each sentence. */
public final class NightEdgeTest {
    private static final int MIN = Integer.MIN_VALUE;
    private static final int MAX = Integer.MAX_VALUE;

    public static void main(String[] args) {
        tillBelow();
        lasts3600AtMost();
        lastsRefused();
        theLeastFull();
        firmOfNone();
        firmRefused();
        asLateAsMayBe();
        getsUpThen();
        tillNSeconds();
        freshEachTime();
        itCannotBe();
        upRefused();
        upAtByNumber();
        upAtRefused();
        costIsLeast();
        cheapestOfNone();
        cheapestRefused();
        fromASecondOn();
        byTheNth();
        firstOfSeveralSeconds();
        lendRefused();
        openBySlip();
        ofTenTimes();
        atLeastTheBound();
        chanceRefused();
        triedOtherwise();
        triedSeconds();
        triedRefused();
        nothingGoesBy();
        Checks.finish();
    }

    // ---- LASTS, FIRM, promises 15 and 16

    private static void tillBelow() {
        Checks.says("how many SECONDS go by, not OPEN, till FULL is below a bound (0, if it is");
        AirBed bed = Checks.bed("bed 100;law lose 2 + open * 50;");
        Checks.due("lasts(10, 11)", bed.lasts(10, 11), 0);
        Checks.due("lasts(10, 10)", bed.lasts(10, 10), 1);
        Checks.due("lasts(10, 9)", bed.lasts(10, 9), 1);
        Checks.due("lasts(10, 8)", bed.lasts(10, 8), 2);
        Checks.due("lasts(10, 1)", bed.lasts(10, 1), 5);
        Checks.due("lasts(0, 1)", bed.lasts(0, 1), 0);
        Checks.due("lasts(100, 100)", bed.lasts(100, 100), 1);
        Checks.due("lasts(100, 101)", bed.lasts(100, 101), 0);
    }

    private static void lasts3600AtMost() {
        Checks.says("3600 at most");
        AirBed bed = Checks.bed("bed 9999;law lose 1;");
        Checks.due("3599", bed.lasts(5000, 1402), 3599);
        Checks.due("3600", bed.lasts(5000, 1401), 3600);
        Checks.due("3601", bed.lasts(5000, 1400), 3600);
        Checks.due("never below 0", bed.lasts(0, 0), 3600);
    }

    private static void lastsRefused() {
        Checks.says("LASTS (FULL 0 .. HOLDS, bound 0 .. 9999); NONE: no such ones.");
        AirBed bed = Checks.bed("bed 70 30;law lose 1;");
        int[] from = {-1, 71, MIN, MAX};
        for (int full : from) {
            Checks.due("lasts(" + full + ", 5)", bed.lasts(full, 5), -1);
        }
        int[] bounds = {-1, 10000, MIN, MAX};
        for (int bound : bounds) {
            Checks.due("lasts(50, " + bound + ")", bed.lasts(50, bound), -1);
        }
        Checks.due("lasts(0, 0)", bed.lasts(0, 0), 3600);
        Checks.due("lasts(70, 0)", bed.lasts(70, 0), 3600);
        Checks.due("lasts(70, 9999)", bed.lasts(70, 9999), 0);
        Checks.due("FULL is as it was", bed.count(1), 30);
        Checks.due("HOLDS 1", Checks.bed("bed 1;law lose 1;").lasts(1, 1), 1);
        Checks.due("HOLDS 9999", Checks.bed("bed 9999;law lose 999;").lasts(9999, 9), 11);
    }

    private static void theLeastFull() {
        Checks.says("the least FULL 0 .. HOLDS that LASTS so many at least");
        AirBed bed = Checks.bed("bed 100;law lose 2;");
        Checks.due("0 SECONDS", bed.firm(0, 9999), 0);
        Checks.due("1 SECOND", bed.firm(1, 30), 30);
        Checks.due("2 SECONDS", bed.firm(2, 30), 32);
        Checks.due("bound 0", bed.firm(60, 0), 0);
        Checks.due("bound 1", bed.firm(1, 1), 1);
        Checks.due("HOLDS itself", bed.firm(36, 30), 100);
        Checks.due("60 SECONDS", Checks.bed("bed 500;law lose 2;").firm(60, 30), 148);
        Checks.due("a greater one that doesn't", Checks.bed("bed 100;law lose (full > 50) * 99;").firm(60, 40), 40);
    }

    private static void firmOfNone() {
        Checks.says("FIRM; -2: none does");
        Checks.due("one more than HOLDS", Checks.bed("bed 100;law lose 2;").firm(37, 30), -2);
        Checks.due("bound HOLDS", Checks.bed("bed 100;law lose 0;").firm(60, 100), 100);
        Checks.due("bound HOLDS + 1", Checks.bed("bed 100;law lose 0;").firm(1, 101), -2);
        Checks.due("bound 9999", Checks.bed("bed 100;law lose 0;").firm(1, 9999), -2);
    }

    private static void firmRefused() {
        Checks.says("FIRM (SECONDS 0 .. 60); NONE: no such ones.");
        AirBed bed = Checks.bed("bed 100;law lose 2;");
        int[] seconds = {-1, 61, MIN, MAX};
        for (int n : seconds) {
            Checks.due("firm(" + n + ", 0)", bed.firm(n, 0), -1);
        }
        int[] bounds = {-1, 10000, MIN, MAX};
        for (int bound : bounds) {
            Checks.due("firm(5, " + bound + ")", bed.firm(5, bound), -1);
            Checks.due("firm(0, " + bound + ")", bed.firm(0, bound), -1);
        }
    }

    // ---- UP, CHEAPEST, promises 17 to 19

    /** Getting up takes a SECOND, in which 2 are lost, and brings 20. */
    private static final String ONE = "bed 100 50;blower a 20 0 1 1 9 0 5;law lose 2;";

    private static void up(AirBed bed, int n, int bound, int... at) {
        Checks.due("up(0, " + n + ", " + bound + ")", bed.up(0, n, bound), at.length);
        for (int k = 0; k <= at.length; k++) {
            int due = k < at.length ? at[k] : -2;
            Checks.due("upAt(0, " + n + ", " + bound + ", " + k + ")", bed.upAt(0, n, bound, k), due);
        }
    }

    private static void asLateAsMayBe() {
        Checks.says("ahead of a SECOND behind which FULL would be below the bound");
        AirBed bed = Checks.bed(ONE);
        up(bed, 1, 48);
        up(bed, 1, 0);
        up(bed, 2, 46);
        up(bed, 10, 30);
        up(bed, 11, 30, 9);
        // bound 0 is never gone below
        up(bed, 3600, 0);
        // what a SECOND that isn't OPEN would lose isn't lost by getting up
        AirBed open = Checks.bed("bed 100 50;blower a 20 0 1 1 9 1 5;law lose (second = 0) * (1 - open) * 9;");
        up(open, 1, 41);
        up(open, 1, 42, 0);
        up(open, 2, 50, 0);
    }

    private static void getsUpThen() {
        Checks.says("or behind which n SECONDS didn't go by yet and getting up then would bring FULL below it behind any SECOND of it");
        AirBed bed = Checks.bed(ONE);
        up(bed, 2, 48, 0);
        up(bed, 2, 47, 0);
        up(bed, 3, 46, 1);
        up(bed, 3, 45, 1);
        up(bed, 3, 44);
        // HANDS go by OPEN: 12 are lost, then 2 each
        AirBed hands = Checks.bed("bed 100 50;blower a 20 0 2 1 9 1 5;law lose 2 + open * 10;");
        up(hands, 3, 36, 0);
        up(hands, 3, 35, 0);
        up(hands, 3, 34, 1);
        up(hands, 3, 33, 1);
        up(hands, 3, 32);
        up(hands, 1, 36);
    }

    private static void tillNSeconds() {
        Checks.says("how often till n SECONDS or more went by");
        AirBed bed = Checks.bed(ONE);
        // 50 .. 32 at 9, then 50 at 10, 32 at 19, 50 at 20
        up(bed, 20, 30, 9);
        up(bed, 21, 30, 9, 19);
        up(bed, 30, 30, 9, 19);
        up(bed, 31, 30, 9, 19, 29);
        AirBed shorter = Checks.bed("bed 999 500;blower a 99 0 20 9 0 0 5;law lose 1;");
        // getting up takes 180 SECONDS
        up(shorter, 2, 491, 0);
        up(shorter, 2, 490);
        up(shorter, 180, 491, 0);
        AirBed more = Checks.bed("bed 999 500;blower a 9 0 2 9 0 0 5;law lose 1;");
        // 500 is 500 again behind 18 SECONDS
        up(more, 18, 491, 0);
        up(more, 19, 491, 0);
        up(more, 20, 491, 0, 18);
        up(more, 37, 491, 0, 18);
        up(more, 38, 491, 0, 18, 36);
    }

    private static void freshEachTime() {
        Checks.says("getting up: fresh each time, HANDS SECONDS go by OPEN, then TIMES BREATHS (who RESTS 0 SECONDS is fresh at each)");
        AirBed bed = Checks.bed("bed 500 50;blower a 20 10 3 1 99 0 5;law lose 2;");
        // 32 at 9; 30 + 20, 48 + 10, 56 + 0 is 56 at 12; 32 at 24, 56 at 27
        up(bed, 40, 30, 9, 24);
        up(bed, 41, 30, 9, 24, 39);
        bed.blow(0, 3);
        Checks.due("FULL", bed.count(1), 74);
        Checks.due("one DIZZY", bed.upAt(0, 40, 30, 0), 21);
        AirBed none = Checks.bed("bed 500 50;blower a 20 10 3 1 0 0 5;law lose 2;");
        // 32 at 9; 30 + 20, 48 + 20, 66 + 20 is 86 at 12; 32 at 39
        up(none, 41, 30, 9, 39);
        AirBed hands = Checks.bed("bed 500 50;blower a 20 0 1 1 9 2 5;law lose 1 + open * 4;");
        // 41 at 9: 36, 31, 30 + 20 is 50 at 12; 41 at 21
        up(hands, 23, 30, 9, 21);
    }

    private static void itCannotBe() {
        Checks.says("it can't be, if FULL is below the bound at first or behind any SECOND");
        AirBed bed = Checks.bed(ONE);
        Checks.due("below at first", bed.up(0, 1, 51), -2);
        Checks.due("bound 9999", bed.up(0, 1, 9999), -2);
        Checks.due("just so much at first", bed.up(0, 1, 50), -2);
        Checks.due("below behind a SECOND", bed.up(0, 1, 49), -2);
        Checks.due("just so much behind it", bed.up(0, 1, 48), 0);
        Checks.due("upAt", bed.upAt(0, 1, 49, 0), -2);
        // each time up brings less than is lost
        AirBed weak = Checks.bed("bed 100 50;blower a 1 0 1 1 9 0 5;law lose 2;");
        Checks.due("too weak", weak.up(0, 60, 30), -2);
        Checks.due("upAt of one too weak", weak.upAt(0, 60, 30, 0), -2);
        Checks.due("long enough", weak.up(0, 10, 30), 0);
        // 491 is kept up to the SECOND ahead of the first fill, 492 isn't
        AirBed slow = Checks.bed("bed 999 500;blower a 99 0 20 9 0 0 5;law lose 1;");
        Checks.due("491", slow.up(0, 20, 491), 1);
        Checks.due("492", slow.up(0, 20, 492), -2);
        Checks.due("nothing is lost", Checks.bed("bed 9 9;blower a 1 0 1 1 9 0 5;law lose 0;").up(0, 3600, 9), 0);
    }

    private static void upRefused() {
        Checks.says("UP (n 1 .. 3600, bound 0 .. 9999); NONE: no such ones.");
        AirBed bed = Checks.bed(ONE);
        int[] blowers = {-1, 1, 4, MIN, MAX};
        for (int blower : blowers) {
            Checks.due("up(" + blower + ", 5, 5)", bed.up(blower, 5, 5), -1);
            Checks.due("upAt(" + blower + ", 5, 5, 0)", bed.upAt(blower, 5, 5, 0), -1);
        }
        int[] numbers = {-1, 0, 3601, MIN, MAX};
        for (int n : numbers) {
            Checks.due("up(0, " + n + ", 5)", bed.up(0, n, 5), -1);
            Checks.due("upAt(0, " + n + ", 5, 0)", bed.upAt(0, n, 5, 0), -1);
        }
        int[] bounds = {-1, 10000, MIN, MAX};
        for (int bound : bounds) {
            Checks.due("up(0, 5, " + bound + ")", bed.up(0, 5, bound), -1);
            Checks.due("upAt(0, 5, " + bound + ", 0)", bed.upAt(0, 5, bound, 0), -1);
        }
        Checks.due("n 3600", bed.up(0, 3600, 30), 360 - 1);
        Checks.due("without BLOWERS", new AirBed().up(0, 5, 0), -1);
    }

    private static void upAtByNumber() {
        Checks.says("The SECOND (from now) in which the k-th time up begins; -2: there are no so many, it can't be");
        AirBed bed = Checks.bed(ONE);
        Checks.due("the first", bed.upAt(0, 30, 30, 0), 9);
        Checks.due("the last", bed.upAt(0, 30, 30, 1), 19);
        Checks.due("one more", bed.upAt(0, 30, 30, 2), -2);
        Checks.due("MAX", bed.upAt(0, 30, 30, MAX), -2);
        Checks.due("it can't be", bed.upAt(0, 30, 49, 0), -2);
        bed.waits(4, false);
        Checks.due("from now", bed.upAt(0, 30, 30, 0), 5);
        Checks.due("at once", bed.upAt(0, 30, 40, 0), 0);
    }

    private static void upAtRefused() {
        Checks.says("upAt: NONE: no such ones.");
        AirBed bed = Checks.bed(ONE);
        Checks.due("k -1", bed.upAt(0, 30, 30, -1), -1);
        Checks.due("k MIN", bed.upAt(0, 30, 30, MIN), -1);
        Checks.due("k -1 though it can't be", bed.upAt(0, 30, 49, -1), -1);
        Checks.due("without BLOWERS", new AirBed().upAt(0, 5, 0, 0), -1);
    }

    private static void cheapest(String text, int n, int bound, int blower, int cost) {
        AirBed bed = Checks.bed(text);
        Checks.due("cheapest(" + n + ", " + bound + ", 0) of " + text, bed.cheapest(n, bound, 0), blower);
        Checks.due("cheapest(" + n + ", " + bound + ", 1) of " + text, bed.cheapest(n, bound, 1), cost);
    }

    private static void costIsLeast() {
        Checks.says("CHEAPEST: the BLOWER whose UP times COST is least, the first of several");
        String bed = "bed 999 50;law lose 2;";
        cheapest(bed + "blower a 20 0 1 1 9 0 5;blower b 20 0 1 1 9 0 5;", 11, 30, 0, 5);
        cheapest(bed + "blower a 20 0 1 1 9 0 5;blower b 20 0 1 1 9 0 4;", 11, 30, 1, 4);
        cheapest(bed + "blower a 20 0 1 1 9 0 5;blower b 20 0 1 1 9 0 6;", 11, 30, 0, 5);
        // a three times, b once
        cheapest(bed + "blower a 20 0 1 1 9 0 5;blower b 99 0 1 1 9 0 15;", 31, 30, 0, 15);
        cheapest(bed + "blower a 20 0 1 1 9 0 5;blower b 99 0 1 1 9 0 14;", 31, 30, 1, 14);
        cheapest(bed + "blower a 20 0 1 1 9 0 5;blower b 99 0 1 1 9 0 0;", 31, 30, 1, 0);
        // nobody has to get up
        cheapest(bed + "blower a 20 0 1 1 9 0 99;blower b 20 0 1 1 9 0 0;", 10, 30, 0, 0);
        cheapest(bed + "blower a 20 0 1 1 9 0 99;", 3600, 30, 0, 359 * 99);
    }

    private static void cheapestOfNone() {
        Checks.says("cheapest: -2: none can");
        String bed = "bed 999 50;law lose 2;";
        cheapest(bed + "blower a 1 0 1 1 9 0 1;blower b 20 0 1 1 9 0 5;", 11, 30, 1, 5);
        cheapest(bed + "blower b 20 0 1 1 9 0 5;blower a 1 0 1 1 9 0 1;", 11, 30, 0, 5);
        cheapest(bed + "blower a 1 0 1 1 9 0 1;blower b 1 0 1 1 9 0 5;", 60, 30, -2, -2);
        // b just fills what is lost
        cheapest(bed + "blower a 1 0 1 1 9 0 1;blower b 2 0 1 1 9 0 5;", 60, 30, 1, 50 * 5);
        cheapest(bed + "blower a 20 0 1 1 9 0 0;", 1, 51, -2, -2);
        cheapest(bed, 1, 0, -2, -2);
        cheapest("", 3600, 0, -2, -2);
    }

    private static void cheapestRefused() {
        Checks.says("cheapest: NONE: no such ones.");
        AirBed bed = Checks.bed(ONE);
        int[] numbers = {-1, 0, 3601, MIN, MAX};
        for (int n : numbers) {
            Checks.due("cheapest(" + n + ", 5, 0)", bed.cheapest(n, 5, 0), -1);
            Checks.due("without BLOWERS", new AirBed().cheapest(n, 0, 0), -1);
        }
        int[] bounds = {-1, 10000, MIN, MAX};
        for (int bound : bounds) {
            Checks.due("cheapest(5, " + bound + ", 0)", bed.cheapest(5, bound, 0), -1);
        }
        int[] whats = {-1, 2, MIN, MAX};
        for (int what : whats) {
            Checks.due("cheapest(5, 5, " + what + ")", bed.cheapest(5, 5, what), -1);
        }
        Checks.due("cheapest(1, 9999, 0)", bed.cheapest(1, 9999, 0), -2);
    }

    // ---- LEND, promise 20

    private static void lend(AirBed bed, int n, int from, int full) {
        Checks.due("lend(" + n + ", 0)", bed.lend(n, 0), from);
        Checks.due("lend(" + n + ", 1)", bed.lend(n, 1), full);
    }

    private static void fromASecondOn() {
        Checks.says("the pump goes from a SECOND on (0 up from now) as long as it is lent, by the n-th at most: that from which FULL is greatest behind n");
        // the fuller, the more is lost: late
        AirBed late = Checks.bed("bed 100 50;pump 10 2;law lose full / 10;");
        lend(late, 2, 0, 50 - 5 + 10 - 5 + 10);
        lend(late, 3, 1, 45 - 4 + 10 - 5 + 10);
        lend(late, 4, 2, 41 - 4 + 10 - 4 + 10);
        late.waits(1, false);
        lend(late, 2, 0, 45 - 4 + 10 - 5 + 10);
        // the emptier, the more is lost: early
        AirBed early = Checks.bed("bed 100 50;pump 10 2;law lose room / 10;");
        lend(early, 4, 0, 50 - 5 + 10 - 4 + 10 - 3 - 4);
        // none of these SECONDS is OPEN
        lend(Checks.bed("bed 100 50;pump 10 2;law lose open * 9;"), 5, 0, 70);
        lend(Checks.bed("bed 100 100;pump 1 1;law lose (second = 1) + open * 9;"), 5, 1, 100);
        // half of it is lost behind four SECONDS
        AirBed once = Checks.bed("bed 100 50;pump 10 2;law lose (second = 4) * full / 2;");
        lend(once, 7, 4, 25 + 20);
        lend(once, 6, 4, 25 + 20);
        lend(once, 5, 3, 30 + 10);
        lend(once, 4, 0, 70);
    }

    private static void byTheNth() {
        Checks.says("lend: NONE: fewer than it is lent");
        AirBed bed = Checks.bed("bed 500;pump 5 99;law lose 0;");
        lend(bed, 98, -1, -1);
        lend(bed, 99, 0, 495);
        AirBed one = Checks.bed("bed 500;pump 5 1;law lose 0;");
        lend(one, 1, 0, 5);
        AirBed last = Checks.bed("bed 500;pump 5 3;law lose full;");
        lend(last, 3, 0, 5);
        AirBed later = Checks.bed("bed 500 100;pump 5 3;law lose (second < 7) * full;");
        lend(later, 10, 6, 15);
        lend(later, 9, 6, 15);
        lend(later, 8, 5, 10);
    }

    private static void firstOfSeveralSeconds() {
        Checks.says("LEND: of several the first");
        lend(Checks.bed("bed 500 100;pump 5 3;law lose 1;"), 60, 0, 100 - 60 + 15);
        // HOLDS at most: in the first SECOND it would be wasted
        lend(Checks.bed("bed 100 100;pump 1 1;law lose second = 1;"), 9, 1, 100);
    }

    private static void lendRefused() {
        Checks.says("LEND (n 1 .. 600); NONE: no such ones, no pump");
        AirBed bed = Checks.bed("bed 500;pump 5 1;law lose 0;");
        int[] numbers = {-1, 0, 601, MIN, MAX};
        for (int n : numbers) {
            lend(bed, n, -1, -1);
        }
        lend(bed, 600, 0, 5);
        int[] whats = {-1, 2, MIN, MAX};
        for (int what : whats) {
            Checks.due("lend(5, " + what + ")", bed.lend(5, what), -1);
        }
        bed.pump(1);
        lend(bed, 0, -1, -1);
        lend(new AirBed(), 5, -1, -1);
        lend(Checks.bed("bed 5;"), 600, -1, -1);
    }

    // ---- promise 29

    private static void openBySlip() {
        Checks.says("each SECOND a number modulo 1000; it is OPEN, if that is below slip");
        // of seed 0, modulo 1000: 0 468 988 117 498 927 45 741 122 410
        int[] slips = {0, 1, 45, 46, 117, 118, 468, 469, 988, 989, 999};
        int[] shut = {10, 9, 9, 8, 8, 7, 5, 4, 1, 0, 0};
        for (int i = 0; i < slips.length; i++) {
            AirBed bed = Checks.bed("bed 9 9;law lose open;slip " + slips[i] + ";");
            Checks.due("slip " + slips[i], bed.chance(0, 1, 9), shut[i]);
        }
    }

    private static void ofTenTimes() {
        Checks.says("In how many of ten times drawn (numbers from a seed 0 .. 2147483647 on");
        AirBed bed = Checks.bed("bed 9 9;law lose open;slip 500;seed 5;");
        // each two of 0 468 | 988 117 | 498 927 | 45 741 | 122 410 | 261 52 | 659 758 | 87 875 | 368 233 | 212 661
        int[] least = {10, 6, 1};
        for (int lost = 0; lost <= 2; lost++) {
            Checks.due("not more OPEN than " + (2 - lost), bed.chance(0, 2, 7 + lost), least[lost]);
        }
        Checks.due("the same again", bed.chance(0, 2, 9), 1);
        // of 2147483647: 929 409 862 718 713 226 80 63 32 734
        Checks.due("the greatest seed", bed.chance(MAX, 1, 9), 5);
        bed.waits(3, false);
        Checks.due("from now, the same numbers", bed.chance(MAX, 1, 9), 5);
    }

    private static void atLeastTheBound() {
        Checks.says("FULL is at least a bound then");
        AirBed bed = Checks.bed("bed 900 700;law lose 1;");
        Checks.due("one fewer", bed.chance(0, 600, 99), 10);
        Checks.due("just so much", bed.chance(0, 600, 100), 10);
        Checks.due("one more", bed.chance(0, 600, 101), 0);
        Checks.due("only then, not on the way", Checks.bed("bed 900 700;law lose second;").chance(0, 2, 699), 10);
    }

    private static void chanceRefused() {
        Checks.says("chance: NONE: no such ones.");
        AirBed bed = Checks.bed("bed 9 9;law lose 0;slip 999;");
        Checks.due("seed -1", bed.chance(-1, 1, 0), -1);
        Checks.due("seed MIN", bed.chance(MIN, 1, 0), -1);
        Checks.due("seed 0", bed.chance(0, 1, 0), 10);
        Checks.due("seed MAX", bed.chance(MAX, 1, 0), 10);
        int[] numbers = {-1, 0, 601, MIN, MAX};
        for (int n : numbers) {
            Checks.due("n " + n, bed.chance(5, n, 0), -1);
        }
        Checks.due("n 600", bed.chance(5, 600, 9), 10);
        int[] bounds = {-1, 10000, MIN, MAX};
        for (int bound : bounds) {
            Checks.due("bound " + bound, bed.chance(5, 1, bound), -1);
        }
        Checks.due("bound 9999", bed.chance(5, 1, 9999), 0);
        Checks.due("a new object", new AirBed().chance(5, 600, 0), 10);
    }

    // ---- TRIED, promise 30

    private static final String OTHERWISE = "bed 300 200;leak 1 5;leak 1 9;law lose load + open * 10;law load 3;pump 20 1;";

    private static void triedOtherwise() {
        Checks.says("TRIED for n SECONDS not OPEN from now: 0 no LEAK, 1 OPEN, 2 no LOAD, 3 the pump goes all the while, 4 LEAK i is the real one: FULL then");
        AirBed bed = Checks.bed(OTHERWISE);
        Checks.due("no LEAK", bed.tried(0, 0, 3), 200 - 9);
        Checks.due("OPEN", bed.tried(1, 0, 3), 200 - 54);
        Checks.due("no LOAD", bed.tried(2, 0, 3), 200 - 15);
        Checks.due("the pump, longer than it is lent", bed.tried(3, 0, 3), 200 - 24 + 60);
        Checks.due("the pump, HOLDS at most", bed.tried(3, 0, 3600), 300);
        Checks.due("LEAK 0", bed.tried(4, 0, 3), 200 - 24);
        Checks.due("LEAK 1", bed.tried(4, 1, 3), 200 - 36);
        AirBed none = Checks.bed("bed 300 200;law lose 1;");
        Checks.due("no LEAK of none", none.tried(0, 0, 3), 197);
        Checks.due("no LOAD of none", none.tried(2, 0, 3), 197);
        bed.pump(1);
        Checks.due("the pump, though none is lent any more", bed.tried(3, 0, 1), 212 - 8 + 20);
    }

    private static void triedSeconds() {
        Checks.says("TRIED (n 0 .. 3600)");
        AirBed bed = Checks.bed("bed 9999 9999;leak 1 1;law lose 0;pump 1 1;");
        int[] due = {9999, 6399, 6399, 9999, 6399};
        for (int what = 0; what <= 4; what++) {
            Checks.due("0 SECONDS", bed.tried(what, 0, 0), 9999);
            Checks.due("3600 SECONDS", bed.tried(what, 0, 3600), due[what]);
            Checks.due("3601 SECONDS", bed.tried(what, 0, 3601), -1);
            Checks.due("-1", bed.tried(what, 0, -1), -1);
            Checks.due("MIN", bed.tried(what, 0, MIN), -1);
            Checks.due("MAX", bed.tried(what, 0, MAX), -1);
        }
    }

    private static void triedRefused() {
        Checks.says("tried: NONE: no such ones (i 0 of all but 4), 3 without a pump");
        AirBed bed = Checks.bed(OTHERWISE);
        int[] whats = {-1, 5, MIN, MAX};
        for (int what : whats) {
            Checks.due("tried(" + what + ", 0, 1)", bed.tried(what, 0, 1), -1);
        }
        int[] others = {-1, 1, MIN, MAX};
        for (int i : others) {
            for (int what = 0; what < 4; what++) {
                Checks.due("tried(" + what + ", " + i + ", 1)", bed.tried(what, i, 1), -1);
            }
        }
        int[] leaks = {-1, 2, 6, MIN, MAX};
        for (int i : leaks) {
            Checks.due("tried(4, " + i + ", 1)", bed.tried(4, i, 1), -1);
        }
        AirBed six = Checks.bed("bed 50 50;" + "leak 1 1;".repeat(6) + "law lose 0;");
        Checks.due("LEAK 5", six.tried(4, 5, 1), 49);
        Checks.due("LEAK 6", six.tried(4, 6, 1), -1);
        Checks.due("3 without a pump", six.tried(3, 0, 1), -1);
        Checks.due("3 without a pump, no SECONDS", six.tried(3, 0, 0), -1);
        Checks.due("4 without LEAKS", new AirBed().tried(4, 0, 0), -1);
    }

    private static void nothingGoesBy() {
        Checks.says("from now");
        String text = OTHERWISE + "blower a 20 1 3 1 9 1 5;turn a 2;slip 400;trial s 30 2;";
        AirBed bed = Checks.bed(text);
        bed.lasts(100, 5);
        bed.firm(60, 5);
        bed.up(0, 99, 5);
        bed.upAt(0, 99, 5, 1);
        bed.cheapest(99, 5, 0);
        bed.lend(99, 0);
        bed.chance(5, 99, 5);
        for (int what = 0; what <= 4; what++) {
            bed.tried(what, 0, 99);
        }
        bed.ever(2);
        bed.best(2, 0);
        bed.rule(2);
        bed.fairest();
        bed.fits();
        bed.seek(3, 0);
        bed.mean(0);
        Checks.due("all is as it was", Whole.of(bed).equals(Whole.of(Checks.bed(text))), true);
    }
}
