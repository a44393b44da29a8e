/** The edges of ROUNDS, BEST, RULES and of promises 13, 14, 23, 24: one method for each sentence. */
public final class RoundsEdgeTest {
    public static void main(String[] args) {
        fullAtFirst();
        fullBehindABreath();
        endsWithThe3600th();
        aBreathWhoseLastSecondThatIs();
        handsBeyondThe3600th();
        waitingBeyondThe3600th();
        dizzyWaitsTillRested();
        wholeRounds();
        theMostFull();
        everRefused();
        upToTimes();
        noneIsDizzy();
        greatestThenFewestThenFirst();
        bestOfFour();
        bestRefused();
        bestOfNone();
        rulesAtFirst();
        rulesUpTo3600();
        tillDizzy();
        dizzyIsLeftOut();
        allAreDizzy();
        greatestByTakes();
        oneEach();
        rulesOfFour();
        rulesRefused();
        fairest();
        Checks.finish();
    }

    private static void ever(String text, int... due) {
        ever(text, Checks.bed(text), due);
    }

    private static void ever(String told, AirBed bed, int... due) {
        for (int what = 0; what < 4; what++) {
            Checks.due("ever(" + what + ") of " + told, bed.ever(what), due[what]);
        }
        Checks.due("rule(0) of " + told, bed.rule(0), due[1] < 0 ? -2 : due[1]);
    }

    // ---- ROUNDS, promise 13

    private static void fullAtFirst() {
        Checks.says("till FULL is HOLDS (asked at first");
        ever("bed 9 9;blower a 1 0 1 1 0 0 0;turn a 1;law lose 9;", 1, 0, 9, 0);
        ever("bed 9 8;blower a 1 0 1 1 0 0 0;turn a 1;law lose 0;", 1, 1, 9, 0);
        AirBed dizzy = Checks.bed("bed 9 8;blower a 1 0 1 1 99 0 0;turn a 1;law lose 0;");
        dizzy.blow(0, 1);
        ever("one DIZZY", dizzy, 1, 0, 9, 0);
        dizzy.waits(1, true);
        ever("one DIZZY later", dizzy, 1, 0, 9, 0);
    }

    private static void fullBehindABreath() {
        Checks.says("and behind each BREATH)");
        ever("bed 9;blower a 3 0 20 2 99 0 0;turn a 20;law lose 0;", 1, 6, 9, 0);
        ever("bed 9;blower a 9 0 20 2 99 0 0;turn a 20;law lose 0;", 1, 2, 9, 0);
        // FULL is HOLDS behind no BREATH, as each SECOND loses some
        ever("bed 9 8;blower a 1 0 1 1 0 0 0;turn a 1;law lose 1;", 0, -1, 8, 3599);
    }

    private static void endsWithThe3600th() {
        Checks.says("or 3600 SECONDS went by (it ends with the 3600th");
        ever("bed 3600;blower a 1 0 1 1 0 0 0;turn a 1;law lose 0;", 1, 3600, 3600, 3599);
        ever("bed 3601;blower a 1 0 1 1 0 0 0;turn a 1;law lose 0;", 0, -1, 3600, 3599);
        AirBed later = Checks.bed("bed 3600;blower a 1 0 1 1 0 0 0;turn a 1;law lose 0;");
        later.waits(77, true);
        ever("from now on", later, 1, 3600, 3600, 3599);
        later.blow(0, 1);
        ever("from now on", later, 1, 3599, 3600, 3598);
    }

    private static void aBreathWhoseLastSecondThatIs() {
        Checks.says("a BREATH whose last one that is still fills)");
        ever("bed 400;blower a 1 0 1 9 0 0 0;turn a 1;law lose 0;", 1, 3600, 400, 399);
        ever("bed 401;blower a 1 0 1 9 0 0 0;turn a 1;law lose 0;", 0, -1, 400, 399);
        // 514 BREATHS are 3598 SECONDS, the next one would end with the 3605th
        ever("bed 514;blower a 1 0 1 7 0 0 0;turn a 1;law lose 0;", 1, 3598, 514, 513);
        ever("bed 515;blower a 1 0 1 7 0 0 0;turn a 1;law lose 0;", 0, -1, 514, 514);
        // 18 SECONDS a ROUND
        String two = "blower a 1 0 1 8 0 0 0;blower b 1 0 1 1 0 9 0;turn a 1;turn b 1;law lose 0;";
        ever("bed 400;" + two, 1, 3600, 400, 199);
        ever("bed 401;" + two, 0, -1, 400, 199);
    }

    private static void handsBeyondThe3600th() {
        Checks.says("it ends with the 3600th: in HANDS");
        // 17 SECONDS a ROUND, 211 of them and a BREATH of a are 3594
        String two = "blower a 1 0 1 7 0 0 0;blower b 1 0 1 1 0 9 0;turn a 1;turn b 1;law lose 0;";
        ever("bed 423;" + two, 1, 3594, 423, 211);
        ever("bed 424;" + two, 0, -1, 423, 211);
    }

    private static void waitingBeyondThe3600th() {
        Checks.says("it ends with the 3600th: in waiting");
        // a BREATH at 1, 101 and so on, the 36th at 3501, the next one would be at 3601
        ever("bed 36;blower a 1 0 1 1 99 0 0;turn a 1;law lose 0;", 1, 3501, 36, 35);
        ever("bed 37;blower a 1 0 1 1 99 0 0;turn a 1;law lose 0;", 0, -1, 36, 36);
        // a SECOND less each time
        ever("bed 37;blower a 1 0 1 1 98 0 0;turn a 1;law lose 0;", 1, 1 + 36 * 99, 37, 36);
    }

    private static void dizzyWaitsTillRested() {
        Checks.says("a BLOWER who is DIZZY waits (not OPEN) till RESTED");
        ever("bed 20;blower a 10 0 1 1 5 0 0;turn a 1;law lose open * 9;", 1, 7, 20, 1);
        ever("bed 20;blower a 10 0 2 1 5 0 0;turn a 1;law lose open * 9;", 1, 2, 20, 1);
        // a at 1, b at 2 behind no HANDS, a is asked behind its three, and waits one more: 6, 7
        ever("bed 21;blower a 9 0 1 1 5 3 0;blower b 3 0 9 1 9 0 0;turn a 1;turn b 1;law lose 0;", 1, 7, 21, 1);
        // its four are just enough: 6, 7
        ever("bed 21;blower a 9 0 1 1 5 4 0;blower b 3 0 9 1 9 0 0;turn a 1;turn b 1;law lose 0;", 1, 7, 21, 1);
        // five are one more: 7, 8
        ever("bed 21;blower a 9 0 1 1 5 5 0;blower b 3 0 9 1 9 0 0;turn a 1;turn b 1;law lose 0;", 1, 8, 21, 1);
    }

    private static void wholeRounds() {
        Checks.says("how many whole ROUNDS went by ahead of the one in which they end");
        String two = "blower a 1 0 20 1 0 0 0;turn a 2;turn a 3;law lose 0;";
        ever("bed 4;" + two, 1, 4, 4, 0);
        ever("bed 5;" + two, 1, 5, 5, 0);
        ever("bed 6;" + two, 1, 6, 6, 1);
        ever("bed 10;" + two, 1, 10, 10, 1);
        ever("bed 11;" + two, 1, 11, 11, 2);
        ever("bed 9999;" + two, 0, -1, 3600, 719);
        String eight = "blower a 1 0 20 1 0 0 0;" + "turn a 20;".repeat(8) + "law lose 0;";
        ever("bed 160;" + eight, 1, 160, 160, 0);
        ever("bed 161;" + eight, 1, 161, 161, 1);
    }

    private static void theMostFull() {
        Checks.says("2: the most FULL it is at first or behind any BREATH");
        ever("bed 100 50;blower a 5 0 1 1 0 0 0;turn a 1;law lose 9;", 0, -1, 50, 3599);
        ever("bed 100 50;blower a 5 0 1 1 0 0 0;turn a 1;law lose 4 + second;", 0, -1, 51, 3599);
        ever("bed 100;blower a 5 0 1 1 0 0 0;turn a 1;law lose full;", 0, -1, 5, 3599);
    }

    private static void everRefused() {
        Checks.says("ever: NONE: no TURNS, no such what.");
        AirBed bed = Checks.bed("bed 5;blower a 1 0 1 1 0 0 0;turn a 1;law lose 0;");
        int[] none = {-1, 4, Integer.MIN_VALUE, Integer.MAX_VALUE};
        for (int what : none) {
            Checks.due("ever(" + what + ")", bed.ever(what), -1);
        }
        AirBed without = Checks.bed("bed 5 5;blower a 1 0 1 1 0 0 0;");
        for (int what = 0; what < 4; what++) {
            Checks.due("without TURNS", without.ever(what), -1);
            Checks.due("a new object", new AirBed().ever(what), -1);
        }
    }

    // ---- BEST, promise 14

    private static void best(AirBed bed, int n, int... due) {
        for (int what = 0; what < due.length; what++) {
            Checks.due("best(" + n + ", " + what + ")", bed.best(n, what), due[what]);
        }
    }

    private static void upToTimes() {
        Checks.says("each a BLOWER and 1 .. TIMES BREATHS");
        best(Checks.bed("blower a 5 0 1 1 0 0 0;law lose 0;"), 1, 5, 1, 0, 1, -2);
        best(Checks.bed("blower a 5 0 1 1 0 0 0;law lose 0;"), 2, 10, 2, 0, 1, 0, 1, -2);
        best(Checks.bed("blower a 5 0 20 1 0 0 0;law lose 0;"), 1, 100, 20, 0, 20, -2);
        best(Checks.bed("blower a 5 0 20 9 99 0 0;law lose 0;"), 1, 100, 180, 0, 20, -2);
        best(Checks.bed("blower a 5 0 1 1 0 0 0;law lose 9;law fill 0;"), 1, 0, 1, 0, 1, -2);
    }

    private static void noneIsDizzy() {
        Checks.says("(none is DIZZY at any; one behind another, from now on)");
        AirBed bed = Checks.bed("blower a 5 0 3 1 99 0 0;law lose 0;");
        best(bed, 2, 15, 3, 0, 1, 0, 2, -2);
        bed.blow(0, 1);
        best(bed, 1, 15, 2, 0, 2, -2);
        best(bed, 2, 15, 2, 0, 1, 0, 1, -2);
        bed.blow(0, 1);
        best(bed, 1, 15, 1, 0, 1, -2);
        best(bed, 2, -2, -2, -2, -2, -2, -2, -2);
        // b's two BREATHS are a's rest: just enough, or one fewer
        AirBed just = Checks.bed("blower a 9 0 1 1 2 0 0;blower b 1 0 2 1 99 0 0;law lose 0;");
        just.blow(0, 1);
        best(just, 2, 9 + 2 + 9, 3, 1, 2, 0, 1, -2);
        AirBed fewer = Checks.bed("blower a 9 0 1 1 3 0 0;blower b 1 0 2 1 99 0 0;law lose 0;");
        fewer.blow(0, 1);
        best(fewer, 2, 9 + 2, 2, 1, 1, 1, 1, -2);
        // HANDS of another one, OPEN
        AirBed hands = Checks.bed("bed 500 90;blower a 9 0 1 1 9 2 0;blower b 5 0 1 1 9 2 0;law lose open * 3;");
        best(hands, 1, 99, 1, 0, 1, -2);
        hands.blow(1, 1);
        best(hands, 1, 95 - 6 + 9, 3, 0, 1, -2);
    }

    private static void greatestThenFewestThenFirst() {
        Checks.says("the greatest FULL behind them, of several the fewest SECONDS, of several the first by BLOWERS, BREATHS, TURN by TURN");
        String like = "blower a 5 0 2 1 99 0 0;blower b 5 0 2 1 99 0 0;law lose 0;";
        best(Checks.bed(like), 1, 10, 2, 0, 2, -2);
        best(Checks.bed(like), 2, 20, 4, 0, 2, 1, 2, -2);
        best(Checks.bed("bed 10;" + like), 2, 10, 2, 0, 1, 0, 1, -2);
        best(Checks.bed("bed 5;" + like), 1, 5, 1, 0, 1, -2);
        best(Checks.bed("bed 15;" + like), 2, 15, 3, 0, 1, 1, 2, -2);
        best(Checks.bed("blower a 10 0 1 2 99 0 0;blower b 5 0 2 1 99 0 0;law lose 0;"), 1, 10, 2, 0, 1, -2);
        best(Checks.bed("blower a 10 0 1 3 99 0 0;blower b 5 0 2 1 99 0 0;law lose 0;"), 1, 10, 2, 1, 2, -2);
        best(Checks.bed("blower a 10 0 1 3 99 0 0;blower b 4 0 2 1 99 0 0;law lose 0;"), 1, 10, 3, 0, 1, -2);
        // BREATHS of 0 only cost SECONDS
        best(Checks.bed("blower a 5 5 9 1 99 0 0;law lose 0;"), 1, 5, 1, 0, 1, -2);
    }

    private static final String FOUR = "blower a 1 0 2 1 99 0 0;blower b 2 0 2 1 99 0 0;blower c 3 0 2 1 99 0 0;"
            + "blower d 4 0 2 1 99 0 0;";

    private static void bestOfFour() {
        Checks.says("BLOWERS, at most 4: BEST");
        best(Checks.bed(FOUR + "law lose 0;"), 1, 8, 2, 3, 2, -2);
        best(Checks.bed(FOUR + "law lose 0;"), 2, 14, 4, 2, 2, 3, 2, -2);
        AirBed one = Checks.bed(FOUR);
        Checks.tell(one, FOUR);
        Checks.tell(one, "blower a 1 0 2 1 99 0 0;law lose 0;");
        best(one, 1, 2, 2, 0, 2, -2);
        best(one, 2, 2, 2, 0, 1, 0, 1, -2);
    }

    private static void rulesOfFour() {
        Checks.says("BLOWERS, at most 4: RULES");
        // 1: a a b b c c d d, 2: d d c c b b a a, 3: a b c d a b c d
        rules("bed 12;" + FOUR + "turn d 1;turn c 1;law lose 0;", 4, 6, 4, 6);
        rules("bed 20;" + FOUR + "turn a 2;turn b 2;turn c 2;turn d 2;law lose 0;", 8, 8, 8, 8);
        AirBed one = Checks.bed(FOUR);
        Checks.tell(one, FOUR);
        Checks.tell(one, "bed 2;blower a 1 0 2 1 99 0 0;law lose 0;");
        rules("one of four told ahead", one, -1, 2, 2, 2);
    }

    private static void bestRefused() {
        Checks.says("best: NONE: no such ones, no BLOWERS.");
        AirBed bed = Checks.bed("blower a 5 0 9 1 99 0 0;");
        int[] none = {-1, 0, 3, Integer.MIN_VALUE, Integer.MAX_VALUE};
        for (int n : none) {
            Checks.due("best(" + n + ", 0)", bed.best(n, 0), -1);
        }
        for (int n = 1; n <= 2; n++) {
            Checks.due("what -1", bed.best(n, -1), -1);
            Checks.due("what MIN", bed.best(n, Integer.MIN_VALUE), -1);
            Checks.due("without BLOWERS", new AirBed().best(n, 0), -1);
            Checks.due("without BLOWERS", new AirBed().best(n, 1), -1);
        }
    }

    private static void bestOfNone() {
        Checks.says("best: -2: there are no so many, none can be");
        AirBed bed = Checks.bed("blower a 5 0 2 1 99 0 0;");
        Checks.due("best(1, 3)", bed.best(1, 3), 2);
        Checks.due("best(1, 4)", bed.best(1, 4), -2);
        Checks.due("best(1, MAX)", bed.best(1, Integer.MAX_VALUE), -2);
        Checks.due("best(2, 5)", bed.best(2, 5), 1);
        Checks.due("best(2, 6)", bed.best(2, 6), -2);
        Checks.due("best(2, MAX)", bed.best(2, Integer.MAX_VALUE), -2);
        bed.blow(0, 2);
        for (int what = 0; what < 4; what++) {
            Checks.due("all are DIZZY", bed.best(1, what), -2);
            Checks.due("all are DIZZY", bed.best(2, what), -2);
        }
        bed.waits(98, false);
        Checks.due("a SECOND too early", bed.best(1, 3), -2);
        bed.waits(1, false);
        Checks.due("RESTED", bed.best(1, 3), 2);
    }

    // ---- RULES, promises 23 and 24

    private static void rules(String text, int... due) {
        rules(text, Checks.bed(text), due);
    }

    private static void rules(String told, AirBed bed, int... due) {
        for (int rule = 0; rule < due.length; rule++) {
            Checks.due("rule(" + rule + ") of " + told, bed.rule(rule), due[rule]);
        }
    }

    private static void rulesAtFirst() {
        Checks.says("SECONDS till FULL is HOLDS from now on (as of ROUNDS): asked at first");
        rules("bed 9 9;blower a 1 0 1 1 0 0 0;turn a 1;law lose 9;", 0, 0, 0, 0);
        rules("bed 9 8;blower a 1 0 1 1 0 0 0;turn a 1;law lose 0;", 1, 1, 1, 1);
        AirBed dizzy = Checks.bed("bed 9 8;blower a 1 0 1 1 99 0 0;turn a 1;law lose 0;");
        dizzy.blow(0, 1);
        rules("all are DIZZY and it is full", dizzy, 0, 0, 0, 0);
    }

    private static void rulesUpTo3600() {
        Checks.says("-2: not by 3600");
        rules("bed 3600;blower a 1 0 1 1 0 0 0;turn a 1;law lose 0;", 3600, 3600, 3600, 3600);
        rules("bed 3601;blower a 1 0 1 1 0 0 0;turn a 1;law lose 0;", -2, -2, -2, -2);
        rules("bed 400;blower a 1 0 1 9 0 0 0;turn a 1;law lose 0;", 3600, 3600, 3600, 3600);
        rules("bed 401;blower a 1 0 1 9 0 0 0;turn a 1;law lose 0;", -2, -2, -2, -2);
        rules("bed 515;blower a 1 0 1 7 0 0 0;turn a 1;law lose 0;", -2, -2, -2, -2);
        rules("bed 36;blower a 1 0 1 1 99 0 0;turn a 1;law lose 0;", 3501, 3501, 3501, 3501);
        rules("bed 37;blower a 1 0 1 1 99 0 0;turn a 1;law lose 0;", -2, -2, -2, -2);
        AirBed later = Checks.bed("bed 3600;blower a 1 0 1 1 0 0 0;turn a 1;law lose 0;");
        later.waits(500, false);
        rules("from now on", later, 3600, 3600, 3600, 3600);
    }

    private static void tillDizzy() {
        Checks.says("1 each by numbers till DIZZY");
        String three = "blower a 1 0 2 1 99 1 0;blower b 10 0 2 1 99 1 0;blower c 1 0 2 1 99 1 0;law lose 0;";
        Checks.due("a a", Checks.bed("bed 2;" + three).rule(1), 2);
        Checks.due("a a b", Checks.bed("bed 3;" + three).rule(1), 4);
        Checks.due("a a b b", Checks.bed("bed 22;" + three).rule(1), 5);
        Checks.due("a a b b c", Checks.bed("bed 23;" + three).rule(1), 7);
        Checks.due("a a b b c c", Checks.bed("bed 24;" + three).rule(1), 8);
        // a is RESTED at 101, goes round to it: HANDS, then two
        Checks.due("and a again", Checks.bed("bed 26;" + three).rule(1), 101 + 1 + 2);
        Checks.due("RESTS 0 is never DIZZY", Checks.bed(
                "bed 50;blower a 1 0 2 1 0 1 0;blower b 50 0 2 1 0 1 0;law lose 0;").rule(1), 50);
        AirBed last = Checks.bed("bed 20;" + three);
        last.blow(2, 1);
        Checks.due("begins with the first one, whoever blew", last.rule(1), 1 + 2 + 1 + 2);
        AirBed some = Checks.bed("bed 4;" + three);
        some.blow(0, 1);
        Checks.due("one BREATH more of a", some.rule(1), 1 + 1 + 1);
    }

    private static void dizzyIsLeftOut() {
        Checks.says("one DIZZY is left out (asked ahead of HANDS");
        // a would be RESTED behind its HANDS
        String two = "blower a 10 0 1 1 3 5 0;blower b 10 0 9 1 99 0 0;law lose 0;";
        Checks.due("1", Checks.bed("bed 30;" + two).rule(1), 3);
        Checks.due("2", Checks.bed("bed 30;" + two).rule(2), 3);
        Checks.due("3", Checks.bed("bed 30;" + two).rule(3), 3);
        // at 4 a is RESTED, and its HANDS of five go by
        Checks.due("3, once RESTED", Checks.bed("bed 50;" + two).rule(3), 10);
        AirBed first = Checks.bed("bed 30;" + two);
        first.blow(0, 1);
        Checks.due("1 begins behind one DIZZY", first.rule(1), 2);
        Checks.due("3 begins behind one DIZZY", first.rule(3), 2);
    }

    private static void allAreDizzy() {
        Checks.says("if all are, one SECOND is waited, not OPEN");
        rules("bed 30;blower a 10 0 1 1 3 0 0;turn a 1;law lose open * 9;", 9, 9, 9, 9);
        rules("bed 20;blower a 10 0 1 1 1 0 0;turn a 1;law lose open * 9;", 3, 3, 3, 3);
        rules("bed 20;blower a 10 0 1 1 0 0 0;turn a 1;law lose open * 9;", 2, 2, 2, 2);
        // a 1, b 3 behind HANDS of one; at 5 a is RESTED: HANDS of two, 8
        String two = "blower a 10 0 1 1 4 2 0;blower b 10 0 1 1 4 1 0;law lose 0;";
        Checks.due("1", Checks.bed("bed 30;" + two).rule(1), 8);
        Checks.due("2", Checks.bed("bed 30;" + two).rule(2), 8);
        Checks.due("3", Checks.bed("bed 30;" + two).rule(3), 8);
    }

    private static void greatestByTakes() {
        Checks.says("2 whose next BREATH (by BREATH, LESS) by TAKES is the greatest, one each time, of several who blew last, else the first");
        Checks.due("9 by 4 or 7 by 3", Checks.bed(
                "bed 7;blower a 9 0 9 4 50 0 0;blower b 7 0 9 3 50 0 0;law lose 0;").rule(2), 3);
        Checks.due("8 by 4 or 6 by 3: the first", Checks.bed(
                "bed 6;blower a 8 0 9 4 50 0 0;blower b 6 0 9 3 50 0 0;law lose 0;").rule(2), 4);
        AirBed last = Checks.bed("bed 12;blower a 8 0 9 4 50 0 0;blower b 6 0 9 3 50 0 0;law lose 0;");
        last.blow(1, 1);
        Checks.due("8 by 4 or 6 by 3: who blew last", last.rule(2), 3);
        AirBed pumped = Checks.bed("bed 13;blower a 8 0 9 4 50 0 0;blower b 6 0 9 3 50 0 0;law lose 0;pump 1 1;");
        pumped.blow(1, 1);
        pumped.pump(1);
        Checks.due("the pump went last: the first", pumped.rule(2), 4);
        // nine BREATHS of a are 9, then a is DIZZY, and one of b is 51
        Checks.due("the law isn't asked", Checks.bed("bed 50;blower a 9 0 9 1 50 0 0;blower b 8 0 9 2 50 0 0;law lose 0;"
                + "law fill (breath = 8) * 50 + 1;").rule(2), 9 + 2);
        // a 10, then 5; b 7 each time
        Checks.due("LESS", Checks.bed("bed 22;blower a 10 5 9 1 50 1 0;blower b 7 0 9 1 50 1 0;law lose 0;").rule(2), 4);
        // b is the third, c blew last and is like it
        AirBed three = Checks.bed("bed 15;blower a 4 0 9 1 50 0 0;blower b 5 0 9 1 50 3 0;blower c 5 0 9 1 50 3 0;law lose 0;");
        Checks.due("the first of b, c", three.rule(2), 3);
        three.blow(2, 1);
        Checks.due("c", three.rule(2), 2);
    }

    private static void oneEach() {
        Checks.says("3 by numbers, one BREATH each; 1 and 3 begin with the first one, go round");
        String three = "blower a 1 0 9 1 99 1 0;blower b 10 0 9 1 99 1 0;blower c 1 0 9 1 99 1 0;law lose 0;";
        Checks.due("a", Checks.bed("bed 1;" + three).rule(3), 1);
        Checks.due("a b", Checks.bed("bed 11;" + three).rule(3), 3);
        Checks.due("a b c", Checks.bed("bed 12;" + three).rule(3), 5);
        Checks.due("a b c a", Checks.bed("bed 13;" + three).rule(3), 7);
        AirBed last = Checks.bed("bed 12;" + three);
        last.blow(0, 1);
        Checks.due("begins with the first one, whoever blew", last.rule(3), 1 + 2);
        Checks.due("of one", Checks.bed("bed 5;blower a 1 0 9 1 99 1 0;law lose 0;").rule(3), 5);
    }

    private static void rulesRefused() {
        Checks.says("rule: NONE: no such one, no BLOWERS (0: no TURNS)");
        AirBed bed = Checks.bed("bed 5;blower a 1 0 9 1 99 1 0;turn a 1;law lose 0;");
        int[] none = {-1, 4, Integer.MIN_VALUE, Integer.MAX_VALUE};
        for (int rule : none) {
            Checks.due("rule(" + rule + ")", bed.rule(rule), -1);
        }
        rules("bed 5;blower a 1 0 9 1 99 1 0;turn a 1;law lose 0;", 5, 5, 5, 5);
        rules("bed 5;blower a 1 0 9 1 99 1 0;law lose 0;", -1, 5, 5, 5);
        rules("bed 5 5;", -1, -1, -1, -1);
        rules("", -1, -1, -1, -1);
    }

    private static void fairest() {
        Checks.says("The RULE with the fewest SECONDS, the first of several; -2: none; NONE: no BLOWERS.");
        Checks.due("all alike", Checks.bed("bed 5;blower a 1 0 9 1 99 1 0;turn a 1;law lose 0;").fairest(), 0);
        Checks.due("all alike without TURNS", Checks.bed("bed 5;blower a 1 0 9 1 99 1 0;law lose 0;").fairest(), 1);
        Checks.due("full", Checks.bed("bed 5 5;blower a 1 0 9 1 99 1 0;").fairest(), 1);
        // a alone 10, b alone 5
        Checks.due("2", Checks.bed("bed 10;blower a 1 0 20 1 99 0 0;blower b 2 0 20 1 99 0 0;turn a 1;law lose 0;").fairest(), 2);
        // b is asked for only by 0
        Checks.due("0", Checks.bed("bed 10;blower a 2 0 20 1 99 0 0;blower b 3 0 20 2 99 0 0;turn b 1;"
                + "law lose 0;law fill breath * (breath - 2) * 5;").fairest(), 0);
        // only 3 comes to b ahead of a's twentieth
        Checks.due("3", Checks.bed("bed 50;blower a 9 0 20 1 99 0 0;blower b 5 0 20 1 99 0 0;turn a 1;law lose 0;"
                + "law fill (breath = 5) * 50 + 1;").fairest(), 3);
        Checks.due("by 3600, just one", Checks.bed("bed 3600;blower a 1 0 1 1 0 0 0;law lose 0;").fairest(), 1);
        Checks.due("none", Checks.bed("bed 3601;blower a 1 0 1 1 0 0 0;turn a 1;law lose 0;").fairest(), -2);
        Checks.due("no BLOWERS", Checks.bed("bed 5 5;").fairest(), -1);
        Checks.due("a new object", new AirBed().fairest(), -1);
    }
}
