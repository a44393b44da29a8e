/** Promises 13, 14, 23, 24: rounds, the best turns, rules. */
public final class RoundsTest {
    public static void main(String[] args) {
        rounds();
        endOfAnHour();
        roundsFromNow();
        bestTurns();
        noBestTurns();
        rules();
        rulesOfSeveral();
        fairest();
        Checks.finish();
    }

    private static void ever(String text, int... due) {
        AirBed bed = Checks.bed(text);
        for (int what = 0; what < 4; what++) {
            Checks.due("ever(" + what + ") of " + text, bed.ever(what), due[what]);
        }
        Checks.due("rule(0) of " + text, bed.rule(0), due[1] < 0 ? -2 : due[1]);
    }

    private static void rounds() {
        ever("bed 100;blower a 10 0 2 1 5 0 0;turn a 3;", 1, 30, 100, 3);
        ever("bed 90;blower a 10 0 2 1 5 0 0;turn a 3;", 1, 29, 90, 2);
        ever("bed 9 9;blower a 10 0 2 1 5 0 0;turn a 3;", 1, 0, 9, 0);
        // a 1, b 2 + 1, a 1 + 1, b 2 and waits 5 behind its HANDS, then 1: 10, 28, 37, 40
        ever("bed 40;blower a 10 0 9 1 9 1 0;blower b 20 0 1 1 9 2 0;turn a 1;turn b 1;law lose open;",
                1, 14, 40, 1);
        ever("bed 5;blower a 1 0 1 1 0 0 0;turn a 1;law lose 1;", 0, -1, 1, 3599);
        AirBed bed = Checks.bed("bed 5;blower a 1 0 1 1 0 0 0;");
        Checks.due("no TURNS", bed.ever(0), -1);
        Checks.due("no TURNS", bed.rule(0), -1);
        AirBed told = Checks.bed("bed 5;blower a 1 0 1 1 0 0 0;turn a 1;");
        Checks.due("no such what", told.ever(4), -1);
        Checks.due("no such what", told.ever(-1), -1);
    }

    private static void endOfAnHour() {
        ever("bed 3600;blower a 1 0 1 1 0 0 0;turn a 1;law lose 0;", 1, 3600, 3600, 3599);
        ever("bed 3601;blower a 1 0 1 1 0 0 0;turn a 1;law lose 0;", 0, -1, 3600, 3599);
        ever("bed 9999;blower a 1 0 1 7 0 0 0;turn a 1;law lose 0;", 0, -1, 514, 514);
        ever("bed 9999;blower a 1 0 1 9 0 0 0;turn a 4;law lose 0;", 0, -1, 400, 99);
        // the 36th BREATH ends at 3501, the hour in the waiting of the next ROUND
        ever("bed 9999;blower a 1 0 1 1 99 0 0;turn a 1;law lose 0;", 0, -1, 36, 36);
    }

    private static void roundsFromNow() {
        AirBed bed = Checks.bed("bed 100;blower a 10 0 2 1 5 3 0;blower b 10 0 2 1 5 0 0;turn a 2;law lose 0;");
        bed.blow(0, 2);
        Checks.due("a is dizzy", bed.ever(1), 4 * 7);
        bed.blow(1, 1);
        Checks.due("HANDS 3, a waits a SECOND", bed.ever(1), 3 + 1 + 2 + 5 + 2 + 5 + 2 + 5 + 1);
        Checks.due("nothing went by", bed.count(7), 3);
        Checks.due("most", bed.ever(2), 100);
    }

    private static void best(AirBed bed, int n, int... due) {
        for (int what = 0; what < due.length; what++) {
            Checks.due("best(" + n + ", " + what + ")", bed.best(n, what), due[what]);
        }
    }

    private static void bestTurns() {
        AirBed bed = Checks.bed("bed 100;blower a 10 4 4 1 50 1 0;blower b 6 0 2 2 50 1 0;law lose 0;");
        // a: 10 + 6 + 2 + 0; b: 12
        best(bed, 1, 18, 3, 0, 3, -2, -2);
        // fewest SECONDS: b 2 then a 3 and a 3 then b 2 take 4 + 1 + 3 both
        best(bed, 2, 30, 8, 0, 3, 1, 2, -2);
        bed.blow(0, 2);
        best(bed, 1, 28, 5, 1, 2, -2);
        best(bed, 2, 30, 6, 0, 1, 1, 2, -2);
        AirBed small = Checks.bed("bed 9;blower a 5 0 4 2 9 0 0;blower b 5 0 4 1 9 0 0;law lose 0;");
        best(small, 1, 9, 2, 1, 2, -2);
        best(small, 2, 9, 2, 1, 1, 1, 1, -2);
        AirBed losing = Checks.bed("bed 100 90;blower a 5 0 4 3 9 0 0;law lose 9;");
        best(losing, 1, 68, 3, 0, 1, -2);
        AirBed free = Checks.bed("bed 100;blower a 5 3 4 1 0 0 0;law lose 0;");
        best(free, 1, 20, 4, 0, 4, -2);
        best(free, 2, 40, 8, 0, 4, 0, 4, -2);
    }

    private static void noBestTurns() {
        AirBed bed = Checks.bed("bed 100;blower a 10 4 2 1 50 1 0;law lose 0;");
        Checks.due("no such n", bed.best(0, 0), -1);
        Checks.due("no such n", bed.best(3, 0), -1);
        Checks.due("no such what", bed.best(1, -1), -1);
        Checks.due("no so many", bed.best(1, 4), -2);
        Checks.due("no so many", bed.best(2, 6), -2);
        bed.blow(0, 1);
        Checks.due("one BREATH more", bed.best(1, 0), 16);
        Checks.due("none for a second TURN", bed.best(2, 0), -2);
        bed.blow(0, 1);
        Checks.due("none can be", bed.best(1, 0), -2);
        Checks.due("no BLOWERS", Checks.bed("bed 5;").best(1, 0), -1);
        Checks.due("no BLOWERS", Checks.bed("bed 5;").best(1, 9), -1);
    }

    private static void rules() {
        AirBed bed = Checks.bed("bed 30;blower a 10 0 1 1 3 0 0;blower b 10 0 1 1 3 0 0;law lose 0;");
        Checks.due("1: all are dizzy for two SECONDS", bed.rule(1), 5);
        Checks.due("2", bed.rule(2), 5);
        Checks.due("3", bed.rule(3), 5);
        Checks.due("0: no TURNS", bed.rule(0), -1);
        Checks.due("no such one", bed.rule(4), -1);
        Checks.due("no such one", bed.rule(-1), -1);
        Checks.due("no BLOWERS", Checks.bed("bed 5;").rule(3), -1);
        Checks.due("full", Checks.bed("bed 5 5;blower a 1 0 1 1 0 0 0;").rule(1), 0);
        AirBed hour = Checks.bed("bed 3600;blower a 1 0 1 1 0 0 0;law lose 0;");
        Checks.due("by 3600", hour.rule(2), 3600);
        AirBed never = Checks.bed("bed 3601;blower a 1 0 1 1 0 0 0;law lose 0;");
        for (int rule = 1; rule <= 3; rule++) {
            Checks.due("not by 3600", never.rule(rule), -2);
        }
    }

    private static void rulesOfSeveral() {
        AirBed bed = Checks.bed("bed 50;blower a 10 0 5 1 9 1 0;blower b 10 0 5 1 9 1 0;law lose 0;");
        Checks.due("1: a alone", bed.rule(1), 5);
        Checks.due("2: a alone", bed.rule(2), 5);
        Checks.due("3: HANDS each time", bed.rule(3), 9);
        bed.blow(1, 1);
        Checks.due("1 begins with the first one", bed.rule(1), 5);
        Checks.due("2 stays with who blew last", bed.rule(2), 4);
        Checks.due("3 begins with the first one", bed.rule(3), 8);
        AirBed three = Checks.bed("bed 60;blower a 10 0 1 1 3 0 0;blower b 10 0 2 1 20 0 0;blower c 10 0 1 1 20 0 0;"
                + "law lose 0;");
        // a1 b2 b3 c4, then a is rested: 5; then dizzy till 8: 9
        Checks.due("1 goes round", three.rule(1), 9);
        // a1 b2 c3, a is dizzy till 4, so b4, then a5, then a is dizzy till 8: 9
        Checks.due("3 goes round", three.rule(3), 9);
        // a 10, b 7, b 6, then 5 of both
        AirBed strong = Checks.bed("bed 28;blower a 10 5 9 2 50 1 0;blower b 7 1 9 2 50 1 0;law lose 0;");
        Checks.due("2: of several who blew last", strong.rule(2), 9);
        AirBed takes = Checks.bed("bed 12;blower a 9 0 9 4 50 0 0;blower b 7 0 9 3 50 0 0;law lose 0;");
        Checks.due("2: 7 by 3 is more than 9 by 4", takes.rule(2), 6);
    }

    private static void fairest() {
        AirBed bed = Checks.bed("bed 50;blower a 10 0 5 1 9 1 0;blower b 10 0 5 1 9 1 0;turn b 1;turn a 1;law lose 0;");
        Checks.due("1, as 2 is no faster", bed.fairest(), 1);
        bed.blow(1, 1);
        Checks.due("2", bed.fairest(), 2);
        Checks.due("0 of several", Checks.bed("bed 9;blower a 9 0 1 1 0 0 0;turn a 1;").fairest(), 0);
        Checks.due("without TURNS", Checks.bed("bed 9;blower a 9 0 1 1 0 0 0;").fairest(), 1);
        Checks.due("none", Checks.bed("bed 9;blower a 9 0 1 1 0 0 0;law fill 0;").fairest(), -2);
        Checks.due("no BLOWERS", Checks.bed("bed 9;").fairest(), -1);
    }
}
