import java.util.NoSuchElementException;

/** Promises 6 to 12: blowers looked at, laws, breaths, waiting, the pump, patches, the real leak. */
public final class BreathTest {
    private static final String TWO = "bed 100 50;blower a 20 5 3 2 10 1 4;blower b 10 0 2 1 0 2 3;"
            + "law lose open * 3;leak 1 2;pump 7 5;";

    public static void main(String[] args) {
        looks();
        breaths();
        dizziness();
        wrongBreaths();
        longest();
        laws();
        lawNames();
        lawsAtWork();
        seconds();
        pumping();
        patches();
        realLeak();
        Checks.finish();
    }

    private static int thrown(AirBed bed, int blower, int what) {
        try {
            bed.look(blower, what);
        } catch (IndexOutOfBoundsException e) {
            return 1;
        } catch (NoSuchElementException e) {
            return 2;
        }
        return 0;
    }

    private static void looks() {
        AirBed bed = Checks.bed(TWO);
        int[] fresh = {20, 0, 0, 0, 0};
        for (int what = 0; what < 5; what++) {
            Checks.due("fresh look(0, " + what + ")", bed.look(0, what), fresh[what]);
        }
        Checks.due("no such BLOWER", thrown(bed, 2, 0), 1);
        Checks.due("no such BLOWER", thrown(bed, -1, 0), 1);
        Checks.due("neither", thrown(bed, 4, 9), 1);
        Checks.due("no such what", thrown(bed, 1, 5), 2);
        Checks.due("no such what", thrown(bed, 0, -1), 2);
        bed.blow(0, 3);
        int[] dizzy = {5, 3, 3, 1, 10};
        for (int what = 0; what < 5; what++) {
            Checks.due("dizzy look(0, " + what + ")", bed.look(0, what), dizzy[what]);
        }
        bed.waits(9, false);
        Checks.due("a SECOND to rest", bed.look(0, 4), 1);
        Checks.due("dizzy still", bed.look(0, 3), 1);
        bed.waits(1, false);
        int[] rested = {20, 0, 3, 0, 0};
        for (int what = 0; what < 5; what++) {
            Checks.due("rested look(0, " + what + ")", bed.look(0, what), rested[what]);
        }
        AirBed weak = Checks.bed("blower a 9 5 3 1 10 0 0;");
        weak.blow(0, 2);
        Checks.due("0 at least", weak.look(0, 0), 0);
    }

    private static void breaths() {
        AirBed bed = Checks.bed(TWO);
        Checks.due("nobody blew: no HANDS", bed.blow(0, 1), 66);
        Checks.due("HANDS of b, OPEN", bed.blow(1, 1), 64);
        Checks.due("SECONDS", bed.count(7), 5);
        Checks.due("RESTS 0", bed.look(1, 1), 0);
        Checks.due("RESTS 0: none to rest", bed.look(1, 4), 0);
        Checks.due("in all", bed.look(1, 2), 1);
        Checks.due("the pump", bed.pump(1), 69);
        Checks.due("HANDS behind the pump", bed.blow(1, 1), 67);
        Checks.due("LESS of one who isn't rested", bed.blow(0, 1), 73);
        Checks.due("SECONDS", bed.count(7), 12);
        Checks.due("waiting", bed.waits(8, false), 57);
        Checks.due("two since", bed.look(0, 1), 2);
        Checks.due("two SECONDS to rest", bed.look(0, 4), 2);
        Checks.due("b again", bed.blow(1, 1), 55);
        Checks.due("a is rested meanwhile", bed.look(0, 1), 0);
        Checks.due("who blew last", bed.count(9), 1);
        Checks.due("RESTS 0 is never dizzy", Checks.bed("bed 9999;blower a 10 9 2 1 0 0 0;law lose 0;").blow(0, 20), 200);
        Checks.due("HOLDS at most", Checks.bed("bed 10 9;blower a 99 0 2 1 0 0 0;").blow(0, 2), 10);
    }

    private static void dizziness() {
        AirBed bed = Checks.bed(TWO);
        Checks.due("four of three", bed.blow(0, 4), -2);
        Checks.due("nothing is done", bed.count(7), 0);
        Checks.due("nothing to undo", bed.count(13), 0);
        Checks.due("three", bed.blow(0, 3), 50 - 12 + 45);
        Checks.due("a fourth", bed.blow(0, 1), -2);
        AirBed hands = Checks.bed("blower a 1 0 1 1 4 3 0;blower b 1 0 1 1 4 0 0;law lose 0;");
        hands.blow(0, 1);
        hands.blow(1, 1);
        Checks.due("dizzy ahead of HANDS", hands.look(0, 3), 1);
        Checks.due("rested behind HANDS", hands.blow(0, 1), 3);
        Checks.due("once since", hands.look(0, 1), 1);
        Checks.due("b is dizzy no more, its HANDS are none", hands.blow(1, 1), 4);
    }

    private static void wrongBreaths() {
        AirBed bed = Checks.bed(TWO);
        Checks.due("no such BLOWER", bed.blow(2, 1), -1);
        Checks.due("no such BLOWER", bed.blow(-1, 1), -1);
        Checks.due("none", bed.blow(0, 0), -1);
        Checks.due("21", bed.blow(0, 21), -1);
        Checks.due("21 of one never dizzy", bed.blow(1, 21), -1);
        Checks.due("waits(0)", bed.waits(0, false), -1);
        Checks.due("waits(1000)", bed.waits(1000, false), -1);
        Checks.due("nothing to undo", bed.count(13), 0);
    }

    private static void longest() {
        AirBed bed = Checks.bed("bed 50 50;law lose 0;pump 1 9;blower a 1 0 2 9 99 0 0;blower b 1 0 9 1 99 0 0;");
        for (int i = 0; i < 100; i++) {
            bed.waits(999, false);
        }
        Checks.due("99900", bed.count(7), 99900);
        Checks.due("above 99999", bed.waits(100, false), -1);
        Checks.due("99990", bed.waits(90, false), 50);
        Checks.due("18 SECONDS more", bed.blow(0, 2), -1);
        Checks.due("dizzy is asked first", bed.blow(0, 3), -2);
        Checks.due("nine SECONDS", bed.blow(0, 1), 50);
        Checks.due("99999", bed.count(7), 99999);
        Checks.due("b", bed.blow(1, 1), -1);
        Checks.due("the pump", bed.pump(1), -1);
        Checks.due("not so many left is asked first", bed.pump(10), -2);
        Checks.due("waits(1)", bed.waits(1, true), -1);
        bed.undo();
        Checks.due("pump(9)", bed.pump(9), 50);
        bed.undo();
        Checks.due("waits(9)", bed.waits(9, true), 50);
    }

    private static long value(String law) {
        return Checks.bed("bed 90 30;law lose " + law + ";").law(0, 1);
    }

    private static void laws() {
        long error = Long.MIN_VALUE;
        Checks.due("raw, not cut to what is lost", value("0 - 5"), -5);
        Checks.due("raw", value("9999 * 2"), 19998);
        Checks.due("binding", value("1 + 2 * 3 - 4 / 2"), 5);
        Checks.due("to the left", value("100 / 10 / 5 - 1 - 1"), 0);
        Checks.due("brackets", value("(1 + 2) * (3 - 4) / 2"), -1);
        Checks.due("cut towards 0", value("(0 - 7) / 2"), -3);
        Checks.due("cut towards 0", value("7 / (0 - 2)"), -3);
        Checks.due("not binds less than =", value("not 1 = 2"), 1);
        Checks.due("not not", value("not not 5"), 1);
        Checks.due("and ahead of or", value("1 or 0 and 0"), 1);
        Checks.due("not ahead of and", value("not 1 and 0"), 0);
        Checks.due("and is 1", value("5 and 7"), 1);
        Checks.due("or is 1", value("0 or 7"), 1);
        Checks.due("comparison", value("(1 < 2) + (2 <= 2) * 10 + (2 = 2) * 100 + (1 <> 2) * 1000"), 1111);
        Checks.due("comparison", value("(2 < 2) + (3 <= 2) + (1 = 2) + (2 <> 2) + (1 >= 2) + (2 > 2)"), 0);
        Checks.due("comparison", value("(2 >= 2) + (3 > 2)"), 2);
        Checks.due("/ by 0", value("1 / 0"), error);
        Checks.due("both sides", value("0 and 1 / 0"), error);
        Checks.due("both sides", value("1 or 1 / 0"), error);
        Checks.due("10 to the 12", value("1000 * 1000 * 1000 * 1000"), 1000000000000L);
        Checks.due("more", value("1000 * 1000 * 1000 * 1000 + 1"), error);
        Checks.due("more and less again", value("1000 * 1000 * 1000 * 1000 + 1 - 1"), error);
        Checks.due("below", value("0 - 1000 * 1000 * 1000 * 1000"), -1000000000000L);
        Checks.due("more below", value("0 - 1000 * 1000 * 1000 * 1000 - 1"), error);
        Checks.due("more than a long", value("9999 * 9999 * 9999 * (9999 * 9999 * 9999)"), error);
        Checks.due("more than a long, below", value("(0 - 9999 * 9999 * 9999) * (9999 * 9999 * 9999)"), error);
        Checks.due("by 0", value("0 * (9999 * 9999 * 9999)"), 0);
        AirBed bed = Checks.bed("law lose open + 5;law fill breath * 2;law load 7;");
        Checks.due("open", bed.law(0, 1), 6);
        Checks.due("no such open", bed.law(0, 2), error);
        Checks.due("no such open", bed.law(0, -1), error);
        Checks.due("fill of 999", bed.law(1, 999), 1998);
        Checks.due("fill of 1000", bed.law(1, 1000), error);
        Checks.due("fill of -1", bed.law(1, -1), error);
        Checks.due("the number isn't looked at", bed.law(2, -99), 7);
        Checks.due("no such what", bed.law(3, 0), error);
        Checks.due("no such what", bed.law(-1, 0), error);
        Checks.due("no such law", Checks.bed("law lose 1;").law(1, 5), error);
    }

    private static void lawNames() {
        AirBed bed = Checks.bed("bed 90 30;law lose full + room * 100 + open * 9999 + second * 1000000 / 1000 + breath;"
                .replace("1000000", "1000 * 1000") + "law fill breath + load * 1000;law load 150 - second + open * 9;");
        bed.waits(2, false);
        Checks.due("it lost all", bed.count(1), 0);
        Checks.due("lose", bed.law(0, 0), 9000 + 2000);
        Checks.due("lose, OPEN", bed.law(0, 1), 9000 + 2000 + 9999);
        Checks.due("load", bed.law(2, 1), 148);
        Checks.due("fill: LOAD is 99 at most", bed.law(1, 5), 99005);
        bed.waits(100, false);
        Checks.due("fill: LOAD later", bed.law(1, 5), 48005);
        bed.waits(100, false);
        Checks.due("load below 0", bed.law(2, 0), -52);
        Checks.due("fill: LOAD is 0 at least", bed.law(1, 5), 5);
        AirBed load = Checks.bed("law load load + breath + 7;law lose load + open;law fill load * breath;");
        Checks.due("load and breath of load are 0", load.law(2, 0), 7);
        Checks.due("lose", load.law(0, 1), 8);
        Checks.due("fill", load.law(1, 3), 21);
        AirBed open = Checks.bed("law load open * 50;law lose load;");
        Checks.due("LOAD of an OPEN SECOND", open.law(0, 1), 50);
        Checks.due("LOAD of another one", open.law(0, 0), 0);
        Checks.due("load by itself isn't OPEN", open.law(2, 1), 0);
        AirBed error = Checks.bed("law load 1 / 0;law lose load + 3;");
        Checks.due("LOAD with an ERROR", error.law(0, 0), 3);
    }

    private static void lawsAtWork() {
        Checks.due("lose below 0", Checks.bed("bed 500 500;law lose 0 - 9;").waits(1, false), 500);
        Checks.due("lose at most 999", Checks.bed("bed 2000 2000;law lose 9999;").waits(1, false), 1001);
        Checks.due("lose with an ERROR", Checks.bed("bed 500 499;law lose 1 / 0;").waits(1, true), 475);
        Checks.due("a hundredth, cut", Checks.bed("bed 500 499;").waits(2, false), 491);
        Checks.due("20 more", Checks.bed("bed 500 499;").waits(1, true), 475);
        Checks.due("fill below 0", Checks.bed("blower a 9 0 1 1 0 0 0;law fill 0 - 9;").blow(0, 1), 0);
        Checks.due("fill at most 99", Checks.bed("blower a 9 0 1 1 0 0 0;law fill 999;").blow(0, 1), 99);
        Checks.due("fill with an ERROR", Checks.bed("blower a 9 0 1 1 0 0 0;law fill 1 / 0;").blow(0, 1), 9);
        Checks.due("fill behind the SECONDS", Checks.bed(
                "bed 500 100;blower a 9 0 1 3 0 0 0;law lose 10;law fill full + second - 60;").blow(0, 1), 70 + 13);
        Checks.due("fill isn't OPEN", Checks.bed(
                "blower a 9 0 1 1 0 9 0;pump 1 1;law lose 0;law fill open * 50 + 4;").blow(0, 1), 4);
        Checks.due("second goes on", Checks.bed("bed 500 100;law lose second;").waits(5, false), 90);
        Checks.due("LOAD at each SECOND", Checks.bed("bed 500 100;law load second;law lose load;").waits(5, false), 90);
    }

    private static void seconds() {
        AirBed bed = Checks.bed("bed 100 60;leak 1 5;law lose 10 + open * 4;");
        Checks.due("not OPEN", bed.waits(1, false), 45);
        Checks.due("OPEN", bed.waits(1, true), 26);
        Checks.due("0 at least", bed.waits(999, false), 0);
        Checks.due("SECONDS", bed.count(7), 1001);
        Checks.due("nobody blew", bed.count(9), -1);
    }

    private static void pumping() {
        AirBed bed = Checks.bed("bed 100 95;pump 10 9;law lose 3;blower a 5 0 9 1 0 1 0;");
        Checks.due("pump(0)", bed.pump(0), -1);
        Checks.due("pump(-1)", bed.pump(-1), -1);
        Checks.due("HOLDS at most", bed.pump(2), 100);
        Checks.due("left", bed.count(8), 7);
        Checks.due("too many", bed.pump(8), -2);
        Checks.due("HANDS go by behind the pump", bed.blow(0, 1), 100 - 6 + 5);
        Checks.due("the rest", bed.pump(7), 100);
        Checks.due("none left", bed.count(8), 0);
        Checks.due("no more", bed.pump(1), -2);
        Checks.due("no pump", Checks.bed("bed 5;").pump(1), -1);
        Checks.due("loses first", Checks.bed("bed 100 2;pump 10 9;law lose 50;").pump(1), 10);
    }

    private static void patches() {
        AirBed bed = Checks.bed("bed 100 100;leak 1 1;leak 2 7;law lose 0;seed 1;");
        Checks.due("drawn 16838 of 3", bed.leak(), 1);
        Checks.due("it leaks", bed.waits(1, false), 93);
        Checks.due("not the real one", bed.patch(0), 0);
        Checks.due("again", bed.patch(0), -1);
        Checks.due("it leaks still", bed.waits(1, false), 86);
        Checks.due("the real one", bed.patch(1), 1);
        Checks.due("it leaks no more", bed.waits(1, false), 86);
        Checks.due("no such one", bed.patch(2), -1);
        Checks.due("no such one", bed.patch(-1), -1);
        Checks.due("bits", bed.count(10), 3);
        Checks.due("the real one is the same", bed.leak(), 1);
    }

    private static void realLeak() {
        Checks.due("none", Checks.bed("bed 5;seed 7;").leak(), -1);
        // the first numbers: 0 of seed 0, 16838 of 1, 908 of 2, 17747 of 3, 30116 of 99999
        Checks.due("seed 0", Checks.bed("leak 1 0;leak 2 0;leak 1 0;").leak(), 0);
        Checks.due("2 of 4", Checks.bed("seed 1;leak 1 0;leak 2 0;leak 1 0;").leak(), 1);
        Checks.due("3 of 4, the seed behind", Checks.bed("leak 1 0;leak 2 0;leak 1 0;seed 3;").leak(), 2);
        Checks.due("0 of 4", Checks.bed("leak 1 0;leak 2 0;leak 1 0;seed 2;").leak(), 0);
        Checks.due("6 of 10", Checks.bed("leak 6 0;leak 4 0;seed 99999;").leak(), 1);
        Checks.due("6 of 10", Checks.bed("leak 7 0;leak 3 0;seed 99999;").leak(), 0);
    }
}
