/** Promises 1 to 5: a new object, the tape, the text, its fault, names. */
public final class TextTest {
    private static final String BLOWER = "blower a 1 0 1 1 0 0 0;";

    public static void main(String[] args) {
        newObject();
        tape();
        texts();
        faultsOfTokens();
        faultsOfNumbers();
        faultsOfTooMany();
        faultsOfTellingTwice();
        faultsOfLaws();
        names();
        Checks.finish();
    }

    private static void newObject() {
        AirBed bed = new AirBed();
        int[] counts = {500, 0, 0, 0, 0, 0, 0, 0, 0, -1, 0, 0, 0, 0};
        for (int what = 0; what < counts.length; what++) {
            Checks.due("new count(" + what + ")", bed.count(what), counts[what]);
        }
        Checks.due("new text(1)", bed.text(1), -2);
        Checks.due("new text(0)", bed.text(0), 0);
        Checks.due("new fault(0)", new AirBed().fault(0), 0);
        Checks.due("new fault(1)", new AirBed().fault(1), -1);
        Checks.due("new back()", new AirBed().back(), -1);
    }

    private static void tape() {
        AirBed bed = new AirBed();
        for (int i = 1; i <= 35; i++) {
            Checks.due("feed " + i, bed.feed(0x20202020, 0x20202020, 0x20202020, 0x20202020, 0x20202020), 20 * i);
        }
        Checks.due("feed beyond 700", bed.feed(0, 0, 0, 0, 0), -1);
        Checks.due("text(701)", bed.text(701), -2);
        Checks.due("text(-1)", bed.text(-1), -2);
        Checks.due("text(700)", bed.text(700), 0);
        Checks.due("the tape is empty", bed.text(1), -2);
        Checks.due("feed anew", bed.feed(-1, -1, -1, -1, -1), 20);
        Checks.due("bytes of 255", bed.text(20), -1);
        Checks.due("bytes of 255, place", bed.fault(1), 0);
    }

    private static void texts() {
        AirBed bed = new AirBed();
        Checks.due("lines", Checks.tell(bed, "bed 10 10;\nslip 999;seed 99999;leak 1 0;leak 99 99;"), 5);
        Checks.due("FULL at first", bed.count(1), 10);
        Checks.due("LEAKS", bed.count(4), 2);
        bed.waits(1, false);
        bed.keep();
        bed.patch(0);
        Checks.due("a fault", Checks.tell(bed, "bed 20;bad"), -1);
        Checks.due("all stays: HOLDS", bed.count(0), 10);
        Checks.due("all stays: SECONDS", bed.count(7), 1);
        Checks.due("all stays: patched", bed.count(10), 1);
        Checks.due("all stays: undo", bed.count(13), 2);
        Checks.due("all stays: IMAGE", bed.back(), 1);
        Checks.due("the tape is empty behind a fault", bed.text(1), -2);
        Checks.due("-2 leaves the fault", bed.fault(0), 1);
        Checks.due("words and digits without blanks", Checks.tell(bed, "bed007 007;leak1 2;lawlose1;"), -1);
        Checks.due("lawlose is a word too long", bed.fault(1), 19);
        Checks.due("without blanks", Checks.tell(bed, "bed007 007;leak1 2;law lose1;"), 3);
        Checks.due("leading zeros", bed.count(0), 7);
        Checks.due("no fault", bed.fault(0), 0);
        Checks.due("no place", bed.fault(1), -1);
        Checks.due("no such what", bed.fault(2), -1);
        Checks.due("no such what", bed.fault(-1), -1);
        bed.keep();
        bed.waits(3, true);
        Checks.tell(bed, "blower b 5 1 2 1 9 1 1;");
        Checks.due("SECOND 0", bed.count(7), 0);
        Checks.due("nothing to undo", bed.undo(), -1);
        Checks.due("no IMAGE", bed.back(), -1);
        Checks.due("HOLDS without", bed.count(0), 500);
        bed.blow(0, 2);
        bed.cheek(0, 1, 1, true);
        bed.known(0);
        Checks.tell(bed, "blower b 5 1 2 1 9 1 1;");
        Checks.due("all fresh", bed.look(0, 0), 5);
        Checks.due("nobody blew", bed.count(9), -1);
        Checks.due("no CHEEKS", bed.count(11), 0);
        bed.cheek(0, 1, 1, true);
        Checks.due("all KNOWN", bed.count(12), 1);
    }

    private static void faultsOfTokens() {
        Checks.fault("bed", 1, 3);
        Checks.fault("bed  ", 1, 5);
        Checks.fault("bed 5", 1, 5);
        Checks.fault("bed 5 5", 1, 7);
        Checks.fault("bed 5 5 5;", 1, 8);
        Checks.fault(";", 1, 0);
        Checks.fault("bed 5;;", 1, 6);
        Checks.fault("5;", 1, 0);
        Checks.fault("Bed 5;", 1, 0);
        Checks.fault("bed\t5;", 1, 3);
        Checks.fault("bed x;", 1, 4);
        Checks.fault("bed -5;", 1, 4);
        Checks.fault("full 5;", 1, 0);
        Checks.fault("blower seed 1 0 1 1 0 0 0;", 1, 7);
        Checks.fault("blower or 1 0 1 1 0 0 0;", 1, 7);
        Checks.fault("blower abcdefg 1 0 1 1 0 0 0;", 1, 7);
        Checks.fault("blower 1 0 1 1 0 0 0;", 1, 7);
        Checks.fault("blower a 1 0 1 1 0 0;", 1, 20);
        Checks.fault("trial load 1 1;", 1, 6);
        Checks.fault("turn blower 1;", 1, 5);
        Checks.fault("leak 1;", 1, 6);
        Checks.fault("pump 1;", 1, 6);
        Checks.fault("slip;", 1, 4);
        Checks.fault("seed a;", 1, 5);
        Checks.fault("bed 0 ?", 2, 4);
    }

    private static void faultsOfNumbers() {
        int[] most = {99, 20, 20, 9, 99, 9, 99};
        int[] least = {1, 0, 1, 1, 0, 0, 0};
        for (int i = 0; i < 7; i++) {
            numberOfBlower(i, most[i] + 1, most[i], least[i]);
        }
        Checks.fault("slip 1000;", 2, 5);
        Checks.fault("seed 100000;", 2, 5);
        Checks.fault("pump 1 100;", 2, 7);
        Checks.fault("leak 1 100;", 2, 7);
        Checks.fault("leak 0 1;", 2, 5);
        Checks.fault("trial s 0 1;", 2, 8);
        Checks.fault("trial s 1 0;", 2, 10);
        Checks.fault("bed 7 8;", 2, 6);
        Checks.fault(BLOWER + "turn a 21;", 2, 30);
        Checks.fault("bed 10000;", 2, 4);
        Checks.fault("bed 99999999999999999999;", 2, 4);
        Checks.fault("bed 4294967297;", 2, 4);
        Checks.fault("blower a 100 0 1 1 0 0 0;", 2, 9);
        Checks.fault("blower a 1 0 0 1 0 0 0;", 2, 13);
        Checks.fault("blower a 1 0 1 0 0 0 0;", 2, 15);
        Checks.fault(BLOWER + "turn a 0;", 2, 30);
        Checks.fault("pump 100 1;", 2, 5);
        Checks.fault("pump 1 0;", 2, 7);
        Checks.fault("leak 100 1;", 2, 5);
        Checks.fault("trial s 101 1;", 2, 8);
        Checks.fault("trial s 1 100;", 2, 10);
        Checks.due("the greatest", Checks.bed("bed 9999 9999;blower abcdef 99 20 20 9 99 9 99;turn abcdef 20;"
                + "pump 99 99;leak 99 99;trial abcdef 100 99;slip 999;seed 99999;law lose 9999;").count(0), 9999);
        Checks.due("the least", Checks.bed("bed 1 0;blower a 1 0 1 1 0 0 0;turn a 1;"
                + "pump 1 1;leak 1 0;trial a 1 1;slip 0;seed 0;law lose 0;").count(0), 1);
    }

    private static void numberOfBlower(int which, int above, int most, int least) {
        String ahead = "blower a" + " 1".repeat(which) + " ";
        String behind = " 1".repeat(6 - which) + ";";
        Checks.fault(ahead + above + behind, 2, ahead.length());
        if (least > 0) {
            Checks.fault(ahead + (least - 1) + behind, 2, ahead.length());
        }
        Checks.bed(ahead + most + behind);
        Checks.bed(ahead + least + behind);
    }

    private static void faultsOfTooMany() {
        String blowers = BLOWER + "blower b 1 0 1 1 0 0 0;blower c 1 0 1 1 0 0 0;blower d 1 0 1 1 0 0 0;";
        Checks.due("four BLOWERS", Checks.bed(blowers).count(2), 4);
        Checks.fault(blowers + "blower", 2, blowers.length());
        String turns = BLOWER + "turn a 1;".repeat(8);
        Checks.due("eight TURNS", Checks.bed(turns).count(3), 8);
        Checks.fault(turns + "turn b 1;", 2, turns.length());
        String leaks = "leak 1 1;".repeat(6);
        Checks.due("six LEAKS", Checks.bed(leaks).count(4), 6);
        Checks.fault(leaks + "leak 1 1;", 2, leaks.length());
        String trials = "trial a 1 1;trial b 1 1;trial c 1 1;";
        Checks.due("three TRIALS", Checks.bed(trials).count(5), 3);
        Checks.fault(trials + "trial a 1 1;", 2, trials.length());
    }

    private static void faultsOfTellingTwice() {
        Checks.fault("pump 1 1;pump", 3, 9);
        Checks.fault("bed 5;bed", 3, 6);
        Checks.fault("slip 1;slip", 3, 7);
        Checks.fault(BLOWER + BLOWER, 3, 30);
        Checks.fault("trial s 1 1;trial s 1 1;", 3, 18);
        Checks.fault("law lose 1;law lose", 3, 15);
        Checks.fault("seed 1;seed 1;", 3, 7);
        Checks.fault("law fill 1;law fill 1;", 3, 15);
        Checks.fault("law load 1;law load 1;", 3, 15);
        Checks.due("a name of another kind", Checks.bed(BLOWER + "trial a 1 1;").count(5), 1);
        Checks.fault("trial a 1 1;turn a 1;", 4, 17);
        Checks.fault("turn a 1;" + BLOWER, 4, 5);
    }

    private static void faultsOfLaws() {
        Checks.fault("law 5;", 1, 4);
        Checks.fault("law full 5;", 1, 4);
        Checks.fault("law lose 1 +;", 1, 12);
        Checks.fault("law lose + 1;", 1, 9);
        Checks.fault("law lose 1 not 2;", 1, 11);
        Checks.fault("law lose 1 + not 2;", 1, 13);
        Checks.fault("law lose 1 < 2 < 3;", 1, 15);
        Checks.fault("law lose 1 + 1 < 2 * 1 = 3;", 1, 23);
        Checks.fault("law lose 1 < = 2;", 1, 13);
        Checks.fault("law lose 1 => 2;", 1, 12);
        Checks.fault("law lose 1 >< 2;", 1, 12);
        Checks.fault("law lose (1;", 1, 11);
        Checks.fault("law lose (1", 1, 11);
        Checks.fault("law lose 1);", 1, 10);
        Checks.fault("law lose ();", 1, 10);
        Checks.fault("law lose 1 2;", 1, 11);
        Checks.fault("law lose lose;", 1, 9);
        Checks.fault("law lose 10000;", 2, 9);
        Checks.fault("law lose ((((((((1))))))) + (1;", 1, 30);
        Checks.fault("law lose (((((((((1)))))))));", 2, 17);
        Checks.fault("law lose ((((((((1)+((1;", 2, 21);
        Checks.due("eight open", Checks.bed("law lose ((((((((1))))))))+((((((((1))))))));").count(6), 3);
        Checks.due("64 KNOTS", Checks.bed("law lose 1" + "+1".repeat(31) + ";law fill 0;").count(6), 64);
        Checks.fault("law lose 1" + "+1".repeat(32) + ";", 2, 73);
        Checks.fault("law lose 1" + "+1".repeat(31) + ";law fill 0;law load full;", 2, 93);
        Checks.fault("law lose 1" + "+1".repeat(31) + ";law fill 0;law load bed;", 1, 93);
        Checks.fault("law lose 1" + "+1".repeat(31) + ";law fill 0<1<", 2, 83);
        Checks.due("every sign", Checks.bed("law lose 1<2 and 1<=2 or 1=2 and 1<>2 or 1>=2 and not 1>2+3-4*5/6;").count(6), 32);
    }

    private static void names() {
        AirBed bed = Checks.bed(BLOWER + "blower abcdef 1 0 1 1 0 0 0;trial z 1 1;trial a 1 1;");
        Checks.due("a", bed.named(0, Checks.letters("a")), 0);
        Checks.due("abcdef", bed.named(0, Checks.letters("abcdef")), 1);
        Checks.due("abcdeg", bed.named(0, Checks.letters("abcdeg")), -1);
        Checks.due("no z among BLOWERS", bed.named(0, 26 << 25), -1);
        Checks.due("z", bed.named(1, 26 << 25), 0);
        Checks.due("a among TRIALS", bed.named(1, 1 << 25), 1);
        Checks.due("a at the wrong end", bed.named(0, 1), -1);
        Checks.due("none", bed.named(0, 0), -1);
        Checks.due("below 0", bed.named(0, 1 << 25 | 1 << 31), -1);
        Checks.due("no such what", bed.named(2, 1 << 25), -1);
        Checks.due("no such what", bed.named(-1, 1 << 25), -1);
    }
}
