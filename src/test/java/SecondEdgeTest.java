import java.util.NoSuchElementException;

/** The edges of the SECOND, the laws, the BREATH, the LEAK and of promises 6 to 12: one method for each sentence. */
public final class SecondEdgeTest {
    private static final long ERROR = Long.MIN_VALUE;
    private static final String MILLION = "1000 * 1000";
    private static final String MOST = MILLION + " * (" + MILLION + ")";

    public static void main(String[] args) {
        whatIsLost();
        whatIsLostWithout();
        zeroAtLeast();
        theLeak();
        thePumpFills();
        load();
        names();
        valuesOneOrZero();
        cutTowardsZero();
        errors();
        errorsOnTheWay();
        whatABreathFills();
        holdsAtMost();
        breathZeroAtLeast();
        dizzyByTimes();
        restedByRests();
        handsOfAnother();
        askedBehindHands();
        drawnLeak();
        noLeak();
        looks();
        looksThatThrow();
        lawsAsked();
        breathsByCall();
        breathsOfOneDizzy();
        breathsUpTo99999();
        waitsByCall();
        pumpByCall();
        patches();
        Checks.finish();
    }

    private static int behindOne(String text, boolean open) {
        return Checks.bed(text).waits(1, open);
    }

    // ---- Terms: a SECOND

    private static void whatIsLost() {
        Checks.says("FULL is less by E of lose (0 .. 999");
        String[] laws = {"0 - 9999", "0 - 1", "0", "1", "998", "999", "1000", "9999 * 9999"};
        int[] full = {5000, 5000, 5000, 4999, 4002, 4001, 4001, 4001};
        for (int i = 0; i < laws.length; i++) {
            Checks.due(laws[i], behindOne("bed 9999 5000;law lose " + laws[i] + ";", false), full[i]);
            Checks.due(laws[i], behindOne("bed 9999 5000;law lose " + laws[i] + ";", true), full[i]);
        }
        Checks.due("the LEAK's is more than 999", behindOne("bed 9999 5000;leak 1 99;law lose 9999;", false), 3902);
    }

    private static void whatIsLostWithout() {
        Checks.says("a hundredth of FULL, cut, and 20 more if OPEN, without, with an ERROR");
        int[] full = {0, 99, 100, 199, 200, 9999};
        int[] shut = {0, 99, 99, 198, 198, 9900};
        int[] open = {0, 79, 79, 178, 178, 9880};
        String[] laws = {"", "law lose 1 / 0;", "law fill 9;", "law lose " + MOST + " + 1;"};
        for (int i = 0; i < full.length; i++) {
            for (String law : laws) {
                Checks.due(full[i] + " " + law, behindOne("bed 9999 " + full[i] + ";" + law, false), shut[i]);
                Checks.due(full[i] + " OPEN " + law, behindOne("bed 9999 " + full[i] + ";" + law, true), open[i]);
            }
        }
        Checks.due("a law has no 20 more", behindOne("bed 500 100;law lose 5;", true), 95);
    }

    private static void zeroAtLeast() {
        Checks.says("0 at least");
        Checks.due("one more than is lost", behindOne("bed 9 6;law lose 5;", false), 1);
        Checks.due("just as much", behindOne("bed 9 5;law lose 5;", false), 0);
        Checks.due("one fewer", behindOne("bed 9 4;law lose 5;", false), 0);
        Checks.due("by the LEAK, just as much", behindOne("bed 9 5;law lose 3;leak 1 2;", false), 0);
        Checks.due("by the LEAK, one fewer", behindOne("bed 9 5;law lose 3;leak 1 3;", false), 0);
        Checks.due("FULL 0", behindOne("bed 9;law lose 5;", true), 0);
        AirBed bed = Checks.bed("bed 9 1;law lose 5;pump 3 1;");
        Checks.due("0 ahead of the pump", bed.pump(1), 3);
    }

    private static void theLeak() {
        Checks.says("what the LEAK loses (the real one, unless it is patched)");
        AirBed bed = Checks.bed("bed 500 500;leak 1 99;leak 99 7;law lose 0;");
        Checks.due("the real one", bed.leak(), 0);
        Checks.due("99", bed.waits(1, false), 401);
        bed.patch(1);
        Checks.due("another one is patched", bed.waits(1, false), 302);
        bed.patch(0);
        Checks.due("it is patched", bed.waits(1, true), 302);
        Checks.due("a LEAK of 0", behindOne("bed 500 50;leak 1 0;law lose 0;", false), 50);
    }

    private static void thePumpFills() {
        Checks.says("then the pump, if it goes, fills as much as it says, HOLDS at most");
        Checks.due("one fewer than HOLDS", Checks.bed("bed 100 90;pump 9 1;law lose 0;").pump(1), 99);
        Checks.due("just HOLDS", Checks.bed("bed 100 91;pump 9 1;law lose 0;").pump(1), 100);
        Checks.due("more", Checks.bed("bed 100 92;pump 9 1;law lose 0;").pump(1), 100);
        Checks.due("behind what is lost", Checks.bed("bed 100 100;pump 9 1;law lose 10;").pump(1), 99);
        Checks.due("99 each SECOND", Checks.bed("bed 9999;pump 99 99;law lose 0;").pump(99), 9801);
        Checks.due("not OPEN", Checks.bed("bed 100 50;pump 9 1;").pump(1), 59);
    }

    private static void load() {
        Checks.says("LOAD: E of load at that SECOND (0 .. 99; 0 without, with an ERROR)");
        String[] laws = {"law load 0 - 1;", "law load 0;", "law load 1;", "law load 99;", "law load 100;",
            "law load 9999 * 9999;", "", "law load 1 / 0;", "law load 0 / load;"};
        int[] loads = {0, 0, 1, 99, 99, 99, 0, 0, 0};
        for (int i = 0; i < laws.length; i++) {
            Checks.due("lose by " + laws[i], behindOne("bed 500 500;law lose load;" + laws[i], false), 500 - loads[i]);
            AirBed bed = Checks.bed("blower a 5 0 1 1 0 0 0;law lose 0;law fill load;" + laws[i]);
            Checks.due("fill by " + laws[i], bed.blow(0, 1), loads[i]);
        }
        Checks.due("an ERROR of load is none of lose", Checks.bed("law load 1 / 0;law lose load + 7;").law(0, 0), 7);
    }

    private static void names() {
        Checks.says("NAMES: full: FULL; room: HOLDS less FULL; open: 1, if OPEN; load: LOAD (of load 0); second: how many went by; breath: of fill how much it would be, else 0");
        AirBed none = Checks.bed("bed 70;law lose full;law fill room;");
        Checks.due("full of an empty one", none.law(0, 0), 0);
        Checks.due("room of an empty one", none.law(1, 0), 70);
        AirBed all = Checks.bed("bed 70 70;law lose full;law fill room;");
        Checks.due("full of a full one", all.law(0, 0), 70);
        Checks.due("room of a full one", all.law(1, 0), 0);
        AirBed open = Checks.bed("law lose open;law fill open;law load open;");
        Checks.due("lose, not OPEN", open.law(0, 0), 0);
        Checks.due("lose, OPEN", open.law(0, 1), 1);
        Checks.due("fill", open.law(1, 1), 0);
        Checks.due("load", open.law(2, 1), 0);
        AirBed second = Checks.bed("bed 500 100;law lose second;");
        Checks.due("none went by", second.law(0, 0), 0);
        Checks.due("0 and 1 are lost", second.waits(2, false), 99);
        Checks.due("two went by", second.law(0, 0), 2);
        AirBed breath = Checks.bed("law lose breath;law fill breath;law load breath + load;");
        Checks.due("breath of lose", breath.law(0, 1), 0);
        Checks.due("breath of fill", breath.law(1, 999), 999);
        Checks.due("breath and load of load", breath.law(2, 999), 0);
        Checks.due("breath of a SECOND that goes by", Checks.bed("bed 500 100;law lose 5 - breath;").waits(2, true), 90);
        AirBed both = Checks.bed("bed 500 100;blower a 9 0 2 1 0 0 0;law lose load;law fill load;law load breath;");
        for (int i = 0; i < 2; i++) {
            Checks.due("breath of load, asked for fill", both.law(1, 7), 0);
            Checks.due("breath of load, filled", both.blow(0, 2), 100);
        }
        AirBed behind = Checks.bed("bed 500 100;blower a 9 0 1 3 0 0 0;law lose 10;law fill second * 10 + full / 10;");
        Checks.due("fill is behind all SECONDS of the BREATH", behind.blow(0, 1), 70 + 37);
    }

    private static long value(String law) {
        return Checks.bed("law lose " + law + ";").law(0, 0);
    }

    private static void valuesOneOrZero() {
        Checks.says("comparisons, and, or, not are 1 or 0 (what isn't 0 is as 1, both sides are worked out)");
        String[] signs = {"<", "<=", "=", "<>", ">=", ">"};
        int[] below = {1, 1, 0, 1, 0, 0};
        int[] same = {0, 1, 1, 0, 1, 0};
        int[] above = {0, 0, 0, 1, 1, 1};
        for (int i = 0; i < signs.length; i++) {
            Checks.due("4" + signs[i] + "5", value("4" + signs[i] + "5"), below[i]);
            Checks.due("5" + signs[i] + "5", value("5" + signs[i] + "5"), same[i]);
            Checks.due("6" + signs[i] + "5", value("6" + signs[i] + "5"), above[i]);
            Checks.due("-6" + signs[i] + "-5", value("0-6" + signs[i] + "0-5"), below[i]);
        }
        int[] ands = {0, 0, 0, 1};
        int[] ors = {0, 1, 1, 1};
        String[] left = {"0", "0", "7", "(0 - 7)"};
        String[] right = {"0", "(0 - 1)", "0", "2"};
        for (int i = 0; i < 4; i++) {
            Checks.due(left[i] + " and " + right[i], value(left[i] + " and " + right[i]), ands[i]);
            Checks.due(left[i] + " or " + right[i], value(left[i] + " or " + right[i]), ors[i]);
        }
        Checks.due("not 0", value("not 0"), 1);
        Checks.due("not 1", value("not 1"), 0);
        Checks.due("not 2", value("not 2"), 0);
        Checks.due("not -1", value("not (0 - 1)"), 0);
        Checks.due("the right side of and", value("0 and 1 / 0"), ERROR);
        Checks.due("the right side of or", value("1 or 1 / 0"), ERROR);
        Checks.due("the left side", value("1 / 0 or 1"), ERROR);
    }

    private static void cutTowardsZero() {
        Checks.says("/ is cut towards 0");
        Checks.due("7 / 2", value("7 / 2"), 3);
        Checks.due("-7 / 2", value("(0 - 7) / 2"), -3);
        Checks.due("7 / -2", value("7 / (0 - 2)"), -3);
        Checks.due("-7 / -2", value("(0 - 7) / (0 - 2)"), 3);
        Checks.due("1 / 2", value("1 / 2"), 0);
        Checks.due("-1 / 2", value("(0 - 1) / 2"), 0);
        Checks.due("0 / 5", value("0 / 5"), 0);
    }

    private static void errors() {
        Checks.says("ERROR: / by 0, a value above 10 to the 12 or below 0 by more than that");
        long most = 1000000000000L;
        Checks.due("1 / 0", value("1 / 0"), ERROR);
        Checks.due("0 / 0", value("0 / 0"), ERROR);
        Checks.due("1 / (5 - 5)", value("1 / (5 - 5)"), ERROR);
        Checks.due("just so much", value(MOST), most);
        Checks.due("one fewer", value(MOST + " - 1"), most - 1);
        Checks.due("one more, by +", value(MOST + " + 1"), ERROR);
        Checks.due("one more, by -", value(MOST + " - (0 - 1)"), ERROR);
        Checks.due("just so much below", value("0 - " + MOST), -most);
        Checks.due("one more below, by -", value("0 - " + MOST + " - 1"), ERROR);
        Checks.due("one more below, by +", value("0 - " + MOST + " + (0 - 1)"), ERROR);
        Checks.due("by *", value("(" + MILLION + ") * (" + MILLION + " + 1)"), ERROR);
        Checks.due("by *, below", value("(0 - " + MILLION + ") * (" + MILLION + ")"), -most);
        Checks.due("by *, more below", value("(0 - " + MILLION + ") * (" + MILLION + " + 1)"), ERROR);
        Checks.due("both below", value("(0 - " + MILLION + ") * (0 - " + MILLION + ")"), most);
        Checks.due("both below, more", value("(0 - " + MILLION + ") * (0 - " + MILLION + " - 1)"), ERROR);
        Checks.due("times 1", value(MOST + " * 1"), most);
        Checks.due("times 2", value(MOST + " * 2"), ERROR);
        Checks.due("times 0", value(MOST + " * 0"), 0);
        Checks.due("0 times", value("0 * (" + MOST + ")"), 0);
        Checks.due("more than a long, as a long 0", value("(" + MOST + ") * (" + MOST + ")"), ERROR);
        // 2 to the 32, squared, is 0 for a long
        Checks.due("2 to the 64", value("(4096 * 4096 * 256) * (4096 * 4096 * 256)"), ERROR);
        Checks.due("2 to the 64", value("1024 * (4096 * 4096) * (64 * (4096 * 4096))"), ERROR);
        Checks.due("2 to the 64", value("64 * (4096 * 4096) * (1024 * (4096 * 4096))"), ERROR);
    }

    private static void errorsOnTheWay() {
        Checks.says("a value above 10 to the 12");
        Checks.due("it comes back", value(MOST + " + 1 - 1"), ERROR);
        Checks.due("it is compared", value(MOST + " + 1 > 0"), ERROR);
        Checks.due("not of it", value("not (1 / 0)"), ERROR);
        Checks.due("times 0", value("0 * (1 / 0)"), ERROR);
        Checks.due("in the law ahead alone", Checks.bed("law lose 1 / 0;law fill 5;").law(1, 0), 5);
        Checks.due("now, not later", laterValue(), 1);
    }

    private static long laterValue() {
        AirBed bed = Checks.bed("law lose 1 / second;");
        Checks.due("by second 0", bed.law(0, 0), ERROR);
        bed.waits(1, false);
        return bed.law(0, 0);
    }

    private static void whatABreathFills() {
        Checks.says("behind them FULL is more by E of fill (0 .. 99; breath without, with an ERROR)");
        String[] laws = {"law fill 0 - 9;", "law fill 0 - 1;", "law fill 0;", "law fill 1;", "law fill 99;",
            "law fill 100;", "law fill 9999 * 9999;", "", "law fill 1 / 0;", "law fill breath - 1;"};
        int[] fills = {0, 0, 0, 1, 99, 99, 99, 33, 33, 32};
        for (int i = 0; i < laws.length; i++) {
            AirBed bed = Checks.bed("blower a 33 0 1 1 0 0 0;law lose 0;" + laws[i]);
            Checks.due(laws[i], bed.blow(0, 1), fills[i]);
        }
        Checks.due("BREATH 99", Checks.bed("blower a 99 0 1 1 0 0 0;law lose 0;").blow(0, 1), 99);
        Checks.due("BREATH 1", Checks.bed("blower a 1 0 1 1 0 0 0;law lose 0;").blow(0, 1), 1);
    }

    private static void holdsAtMost() {
        Checks.says("HOLDS at most");
        String blower = "blower a 9 0 1 1 0 0 0;law lose 0;";
        Checks.due("one fewer than HOLDS", Checks.bed("bed 50 40;" + blower).blow(0, 1), 49);
        Checks.due("just HOLDS", Checks.bed("bed 50 41;" + blower).blow(0, 1), 50);
        Checks.due("more", Checks.bed("bed 50 42;" + blower).blow(0, 1), 50);
        Checks.due("FULL is HOLDS", Checks.bed("bed 50 50;" + blower).blow(0, 1), 50);
        Checks.due("HOLDS 1", Checks.bed("bed 1;" + blower).blow(0, 1), 1);
    }

    private static void breathZeroAtLeast() {
        Checks.says("breath: BREATH less LESS times how many since the last rest, 0 at least");
        AirBed bed = Checks.bed("blower a 9 3 20 1 99 0 0;law lose 0;");
        int[] full = {9, 15, 18, 18, 18};
        int[] next = {6, 3, 0, 0, 0};
        for (int i = 0; i < full.length; i++) {
            Checks.due("BREATH " + i, bed.blow(0, 1), full[i]);
            Checks.due("the next one", bed.look(0, 0), next[i]);
        }
        AirBed below = Checks.bed("blower a 5 3 20 1 99 0 0;law lose 0;");
        Checks.due("5 + 2 + 0", below.blow(0, 20), 7);
        Checks.due("LESS 0", Checks.bed("blower a 5 0 20 1 99 0 0;law lose 0;").blow(0, 20), 100);
        Checks.due("LESS 20", Checks.bed("blower a 99 20 20 1 99 0 0;law lose 0;").blow(0, 20), 99 + 79 + 59 + 39 + 19);
        AirBed law = Checks.bed("blower a 5 3 20 1 99 0 0;law lose 0;law fill breath + 1;");
        Checks.due("breath 0 of fill", law.blow(0, 3), 6 + 3 + 1);
    }

    private static void dizzyByTimes() {
        Checks.says("A BLOWER who did TIMES since the last rest is DIZZY");
        int[] times = {1, 2, 19, 20};
        for (int most : times) {
            AirBed bed = Checks.bed("blower a 1 0 " + most + " 1 99 0 0;law lose 0;");
            for (int i = 0; i < most; i++) {
                Checks.due("DIZZY behind " + i + " of " + most, bed.look(0, 3), 0);
                Checks.due("BREATH " + i + " of " + most, bed.blow(0, 1), i + 1);
            }
            Checks.due("DIZZY", bed.look(0, 3), 1);
            Checks.due("one more", bed.blow(0, 1), -2);
        }
    }

    private static void restedByRests() {
        Checks.says("RESTED, fresh again, who did none for RESTS SECONDS");
        int[] rests = {1, 2, 98, 99};
        for (int rest : rests) {
            AirBed bed = Checks.bed("blower a 9 4 2 3 " + rest + " 0 0;law lose 0;");
            bed.blow(0, 2);
            for (int gone = 0; gone < rest; gone++) {
                Checks.due("DIZZY behind " + gone + " of " + rest, bed.look(0, 3), 1);
                Checks.due("to rest behind " + gone + " of " + rest, bed.look(0, 4), rest - gone);
                bed.waits(1, gone % 2 == 0);
            }
            Checks.due("DIZZY", bed.look(0, 3), 0);
            Checks.due("to rest", bed.look(0, 4), 0);
            Checks.due("as fresh", bed.blow(0, 1), Math.min(9 + 5 + 9, 500));
        }
        AirBed early = Checks.bed("blower a 9 4 3 3 5 0 0;law lose 0;");
        early.blow(0, 1);
        early.waits(4, false);
        Checks.due("a SECOND too early, the rest begins anew", early.blow(0, 1), 9 + 5);
        Checks.due("to rest", early.look(0, 4), 5);
        early.waits(5, false);
        Checks.due("RESTED without being DIZZY", early.blow(0, 1), 14 + 9);
        Checks.due("RESTS 0", Checks.bed("blower a 9 4 2 3 0 0 0;law lose 0;").blow(0, 20), 180);
        AirBed takes = Checks.bed("blower a 9 4 2 9 3 0 0;law lose 0;");
        Checks.due("a BREATH longer than RESTS is no rest", takes.blow(0, 2), 14);
        Checks.due("a third", takes.blow(0, 1), -2);
    }

    private static AirBed handed() {
        return Checks.bed("bed 500 400;blower a 1 0 20 1 99 3 0;blower b 1 0 20 1 99 9 0;blower c 1 0 20 1 99 0 0;"
                + "pump 1 9;law lose open * 10;");
    }

    private static void handsOfAnother() {
        Checks.says("If another one blew last (or the pump went last; not, if nobody did yet), HANDS SECONDS of the one who blows now go by OPEN ahead of the BREATH");
        AirBed bed = handed();
        Checks.due("nobody did yet", bed.blow(0, 1), 401);
        Checks.due("the same one", bed.blow(0, 1), 402);
        bed.waits(9, false);
        Checks.due("the same one behind waiting", bed.blow(0, 1), 403);
        Checks.due("another one: nine", bed.blow(1, 1), 403 - 90 + 1);
        Checks.due("once for two", bed.blow(0, 2), 314 - 30 + 2);
        Checks.due("HANDS 0", bed.blow(2, 1), 287);
        Checks.due("SECONDS", bed.count(7), 1 + 1 + 9 + 1 + 10 + 5 + 1);
        bed.pump(1);
        Checks.due("the pump", bed.blow(2, 1), 289);
        bed.pump(1);
        Checks.due("the pump and the same one", bed.blow(1, 1), 290 - 90 + 1);
        AirBed first = handed();
        first.pump(1);
        Checks.due("the pump went first", first.blow(0, 1), 401 - 30 + 1);
        AirBed waited = handed();
        waited.waits(5, false);
        Checks.due("waiting is nobody", waited.blow(1, 1), 401);
        AirBed undone = handed();
        undone.blow(0, 1);
        undone.undo();
        Checks.due("undone is nobody", undone.blow(1, 1), 401);
    }

    private static void askedBehindHands() {
        Checks.says("whether one is RESTED, DIZZY is asked behind these");
        AirBed just = Checks.bed("blower a 9 4 1 1 8 7 0;blower b 1 0 20 1 99 0 0;law lose 0;");
        just.blow(0, 1);
        just.blow(1, 1);
        Checks.due("DIZZY ahead of HANDS", just.look(0, 3), 1);
        Checks.due("RESTED just behind them", just.blow(0, 1), 19);
        AirBed fewer = Checks.bed("blower a 9 4 1 1 9 7 0;blower b 1 0 20 1 99 0 0;law lose 0;");
        fewer.blow(0, 1);
        fewer.blow(1, 1);
        Checks.due("DIZZY still", fewer.blow(0, 1), -2);
        fewer.waits(1, false);
        Checks.due("a SECOND later", fewer.blow(0, 1), 19);
        AirBed fresh = Checks.bed("blower a 9 4 3 1 8 7 0;blower b 1 0 20 1 99 0 0;law lose 0;");
        fresh.blow(0, 1);
        fresh.blow(1, 1);
        Checks.due("fresh behind HANDS, with all TIMES", fresh.blow(0, 3), 10 + 9 + 5 + 1);
        AirBed same = Checks.bed("blower a 9 4 1 1 5 7 0;law lose 0;");
        same.blow(0, 1);
        Checks.due("no HANDS of the same one", same.blow(0, 1), -2);
    }

    private static void drawnLeak() {
        Checks.says("a number modulo the sum of WEIGHTS: the first one with which they are more than it");
        // the first numbers: 0 of seed 0, 16838 of 1, 908 of 2, 17747 of 3, 30116 of 99999
        Checks.due("0 of 100", Checks.bed("leak 1 0;leak 99 0;").leak(), 0);
        Checks.due("38 of 100: 38 aren't more", Checks.bed("seed 1;leak 38 0;leak 62 0;").leak(), 1);
        Checks.due("38 of 100: 39 are", Checks.bed("seed 1;leak 39 0;leak 61 0;").leak(), 0);
        Checks.due("8 of 100 by three", Checks.bed("seed 2;leak 1 0;leak 7 0;leak 92 0;").leak(), 2);
        Checks.due("8 of 100 by three", Checks.bed("seed 2;leak 1 0;leak 8 0;leak 91 0;").leak(), 1);
        Checks.due("116 of 594", Checks.bed("seed 99999;" + "leak 99 0;".repeat(6)).leak(), 4);
        Checks.due("of one", Checks.bed("seed 3;leak 7 0;").leak(), 0);
        // 30116 is 4 of 6 and 0 of 4
        Checks.due("4 of 6", Checks.bed("leak 1 0;".repeat(6) + "seed 99999;").leak(), 2);
        Checks.due("the last one", Checks.bed("seed 3;leak 1 0;leak 2 0;leak 1 0;").leak(), 2);
        AirBed bed = Checks.bed("seed 3;leak 1 0;leak 2 0;leak 1 0;");
        bed.waits(5, true);
        bed.patch(2);
        Checks.due("the same behind all", bed.leak(), 2);
    }

    private static void noLeak() {
        Checks.says("(none without LEAKS; no number then)");
        AirBed bed = new AirBed();
        Checks.due("a new object", bed.leak(), -1);
        Checks.due("told without", Checks.bed("seed 99999;").leak(), -1);
        AirBed told = Checks.bed("leak 1 9;");
        Checks.tell(told, "seed 5;");
        Checks.due("behind another text", told.leak(), -1);
    }

    // ---- promises 6 to 12

    private static void looks() {
        Checks.says("Of a BLOWER now, what 0 how much the next BREATH would be (by BREATH, LESS), 1 BREATHS since the last rest (0, if RESTED by now), 2 BREATHS in all, 3 whether DIZZY (1, 0), 4 SECONDS to rest still (0: none)");
        AirBed bed = Checks.bed("blower a 9 4 2 1 6 0 0;blower b 7 1 3 1 0 0 0;law fill 50;");
        bed.blow(0, 1);
        bed.waits(2, false);
        look(bed, 0, 5, 1, 1, 0, 4);
        look(bed, 1, 7, 0, 0, 0, 0);
        bed.blow(0, 1);
        look(bed, 0, 1, 2, 2, 1, 6);
        bed.waits(5, false);
        look(bed, 0, 1, 2, 2, 1, 1);
        bed.waits(1, false);
        look(bed, 0, 9, 0, 2, 0, 0);
        bed.waits(900, false);
        look(bed, 0, 9, 0, 2, 0, 0);
        bed.blow(0, 1);
        look(bed, 0, 5, 1, 3, 0, 6);
        bed.blow(1, 20);
        look(bed, 1, 7, 0, 20, 0, 0);
    }

    private static void look(AirBed bed, int blower, int... due) {
        for (int what = 0; what < 5; what++) {
            Checks.due("look(" + blower + ", " + what + ")", bed.look(blower, what), due[what]);
        }
    }

    private static int thrown(AirBed bed, int blower, int what) {
        try {
            bed.look(blower, what);
        } catch (IndexOutOfBoundsException e) {
            return 1;
        } catch (NoSuchElementException e) {
            return 2;
        }
        return 0;
    }

    private static void looksThatThrow() {
        Checks.says("IndexOutOfBoundsException: no such BLOWER. NoSuchElementException: no such what.");
        AirBed bed = Checks.bed("blower a 9 4 2 1 6 0 0;blower b 7 1 3 1 0 0 0;");
        int[] blowers = {-1, 0, 1, 2, 4, Integer.MIN_VALUE, Integer.MAX_VALUE};
        int[] whats = {-1, 0, 4, 5, Integer.MIN_VALUE, Integer.MAX_VALUE};
        for (int blower : blowers) {
            for (int what : whats) {
                int due = blower < 0 || blower > 1 ? 1 : what < 0 || what > 4 ? 2 : 0;
                Checks.due("look(" + blower + ", " + what + ")", thrown(bed, blower, what), due);
            }
        }
        Checks.due("without BLOWERS", thrown(new AirBed(), 0, 0), 1);
    }

    private static void lawsAsked() {
        Checks.says("A law's E now (what 0 lose, open 0, 1; 1 fill of so much 0 .. 999; 2 load; the other number isn't looked at). Long.MIN_VALUE: an ERROR, no such law, no such ones.");
        AirBed bed = Checks.bed("law lose 0 - 7 - open;law fill breath * breath;law load 1234;");
        Checks.due("law(0, -1)", bed.law(0, -1), ERROR);
        Checks.due("law(0, 0)", bed.law(0, 0), -7);
        Checks.due("law(0, 1)", bed.law(0, 1), -8);
        Checks.due("law(0, 2)", bed.law(0, 2), ERROR);
        Checks.due("law(1, -1)", bed.law(1, -1), ERROR);
        Checks.due("law(1, 0)", bed.law(1, 0), 0);
        Checks.due("law(1, 999)", bed.law(1, 999), 998001);
        Checks.due("law(1, 1000)", bed.law(1, 1000), ERROR);
        int[] numbers = {0, -1, 2, 1000, Integer.MIN_VALUE, Integer.MAX_VALUE};
        for (int number : numbers) {
            Checks.due("law(2, " + number + ")", bed.law(2, number), 1234);
            Checks.due("law(3, " + number + ")", bed.law(3, number), ERROR);
            Checks.due("law(-1, " + number + ")", bed.law(-1, number), ERROR);
        }
        AirBed none = new AirBed();
        for (int what = 0; what <= 2; what++) {
            Checks.due("no such law " + what, none.law(what, 0), ERROR);
        }
        AirBed told = Checks.bed("law lose 1;law fill 2;law load 3;");
        Checks.tell(told, "bed 5;");
        for (int what = 0; what <= 2; what++) {
            Checks.due("none of this text " + what, told.law(what, 0), ERROR);
        }
    }

    private static void breathsByCall() {
        Checks.says("So many BREATHS (1 .. 20) of a BLOWER: FULL; NONE: no such ones");
        AirBed bed = Checks.bed("blower a 9 0 20 1 99 0 0;blower b 1 0 5 2 0 0 0;law lose 0;");
        int[] blowers = {-1, 2, 4, Integer.MIN_VALUE, Integer.MAX_VALUE};
        for (int blower : blowers) {
            Checks.due("blow(" + blower + ", 1)", bed.blow(blower, 1), -1);
        }
        int[] numbers = {0, -1, 21, Integer.MIN_VALUE, Integer.MAX_VALUE};
        for (int n : numbers) {
            Checks.due("blow(0, " + n + ")", bed.blow(0, n), -1);
            Checks.due("blow(1, " + n + ")", bed.blow(1, n), -1);
        }
        Checks.due("blow(1, 1)", bed.blow(1, 1), 1);
        Checks.due("blow(1, 20)", bed.blow(1, 20), 21);
        Checks.due("blow(0, 20)", bed.blow(0, 20), 201);
        Checks.due("SECONDS", bed.count(7), 62);
        Checks.due("without BLOWERS", new AirBed().blow(0, 1), -1);
    }

    private static void breathsOfOneDizzy() {
        Checks.says("-2: DIZZY ahead of one of them (nothing is done; asked first)");
        AirBed bed = Checks.bed("bed 100 90;blower a 5 1 3 2 10 0 0;law lose 0;");
        Checks.due("a fourth of three", bed.blow(0, 4), -2);
        Checks.due("nothing is done: SECONDS", bed.count(7), 0);
        Checks.due("nothing is done: FULL", bed.count(1), 90);
        Checks.due("nothing is done: BREATHS", bed.look(0, 2), 0);
        Checks.due("nothing is done: undo", bed.count(13), 0);
        Checks.due("nothing is done: nobody blew", bed.count(9), -1);
        bed.blow(0, 1);
        Checks.due("two are left, not three", bed.blow(0, 3), -2);
        Checks.due("two are left", bed.blow(0, 2), 100);
        Checks.due("none is left", bed.blow(0, 1), -2);
        Checks.due("20 of one DIZZY", bed.blow(0, 20), -2);
        Checks.due("RESTS 1", Checks.bed("blower a 5 1 3 2 1 0 0;").blow(0, 4), -2);
        Checks.due("RESTS 0", Checks.bed("blower a 5 1 3 2 0 0 0;").blow(0, 4), 20);
    }

    /** A bed at 99990 SECONDS. */
    private static AirBed late() {
        AirBed bed = Checks.bed("bed 50 20;law lose 0;pump 1 20;blower a 1 0 2 5 99 4 0;blower b 1 0 9 1 99 0 0;");
        for (int i = 0; i < 100; i++) {
            bed.waits(999, false);
        }
        Checks.due("99990", bed.waits(90, true), 20);
        return bed;
    }

    private static void breathsUpTo99999() {
        Checks.says("blow: NONE: SECONDS would be above 99999");
        AirBed bed = late();
        Checks.due("100000", bed.blow(0, 2), -1);
        Checks.due("DIZZY is asked first", bed.blow(0, 3), -2);
        Checks.due("nothing is done", bed.count(7), 99990);
        Checks.due("99995", bed.blow(0, 1), 21);
        Checks.due("100000 again", bed.blow(0, 1), -1);
        Checks.due("99999", bed.blow(1, 4), 25);
        Checks.due("SECONDS", bed.count(7), 99999);
        Checks.due("no more", bed.blow(1, 1), -1);
        AirBed hands = late();
        hands.blow(1, 1);
        Checks.due("99991 + 4 + 5", hands.blow(0, 1), -1);
        hands.undo();
        hands.pump(1);
        Checks.due("99991 + 4 + 5", hands.blow(0, 1), -1);
        hands.undo();
        Checks.due("99990 + 5", hands.blow(0, 1), 21);
        AirBed just = late();
        just.undo();
        just.waits(89, false);
        just.blow(1, 1);
        Checks.due("99990 + 4 + 5 is 99999", just.blow(0, 1), 22);
    }

    private static void waitsByCall() {
        Checks.says("So many SECONDS (1 .. 999) go by, OPEN or not: FULL; NONE: no such ones, above 99999");
        AirBed bed = Checks.bed("bed 9999 9999;law lose 1 + open;");
        int[] numbers = {0, -1, 1000, Integer.MIN_VALUE, Integer.MAX_VALUE};
        for (int n : numbers) {
            Checks.due("waits(" + n + ", false)", bed.waits(n, false), -1);
            Checks.due("waits(" + n + ", true)", bed.waits(n, true), -1);
        }
        Checks.due("waits(1, false)", bed.waits(1, false), 9998);
        Checks.due("waits(999, false)", bed.waits(999, false), 8999);
        Checks.due("waits(1, true)", bed.waits(1, true), 8997);
        Checks.due("waits(999, true)", bed.waits(999, true), 6999);
        AirBed late = late();
        Checks.due("100000", late.waits(10, false), -1);
        Checks.due("999 of nine", late.waits(999, false), -1);
        Checks.due("99999", late.waits(9, false), 20);
        Checks.due("100000", late.waits(1, true), -1);
        Checks.due("SECONDS", late.count(7), 99999);
    }

    private static void pumpByCall() {
        Checks.says("The pump goes so many SECONDS (1 up, no more than are left of those lent): FULL; -2: not so many left (asked first); NONE: no pump, below 1, above 99999");
        AirBed bed = Checks.bed("pump 2 5;law lose 0;");
        int[] below = {0, -1, Integer.MIN_VALUE};
        for (int n : below) {
            Checks.due("pump(" + n + ")", bed.pump(n), -1);
        }
        Checks.due("pump(6)", bed.pump(6), -2);
        Checks.due("pump(MAX)", bed.pump(Integer.MAX_VALUE), -2);
        Checks.due("pump(1)", bed.pump(1), 2);
        Checks.due("pump(5) of four", bed.pump(5), -2);
        Checks.due("pump(4)", bed.pump(4), 10);
        Checks.due("pump(1) of none", bed.pump(1), -2);
        Checks.due("pump(0) of none", bed.pump(0), -1);
        Checks.due("lent still", bed.count(8), 0);
        Checks.due("without a pump", new AirBed().pump(1), -1);
        Checks.due("without a pump", new AirBed().pump(0), -1);
        AirBed told = Checks.bed("pump 2 5;");
        Checks.tell(told, "bed 5;");
        Checks.due("none of this text", told.pump(1), -1);
        AirBed late = late();
        Checks.due("100000", late.pump(10), -1);
        Checks.due("100010", late.pump(20), -1);
        Checks.due("not so many left is asked first", late.pump(21), -2);
        Checks.due("99999", late.pump(9), 29);
        Checks.due("100000", late.pump(1), -1);
        Checks.due("lent still", late.count(8), 11);
    }

    private static void patches() {
        Checks.says("A LEAK is patched: 1 it was the real one, 0 not; NONE: no such one, it is.");
        AirBed bed = Checks.bed("leak 1 1;".repeat(6) + "seed 99999;");
        int[] none = {-1, 6, 31, 32, 64, Integer.MIN_VALUE, Integer.MAX_VALUE};
        for (int leak : none) {
            Checks.due("patch(" + leak + ")", bed.patch(leak), -1);
        }
        Checks.due("none is patched", bed.count(10), 0);
        for (int leak = 0; leak < 6; leak++) {
            Checks.due("patch(" + leak + ")", bed.patch(leak), leak == 2 ? 1 : 0);
            Checks.due("it is", bed.patch(leak), -1);
            Checks.due("bits", bed.count(10), (2 << leak) - 1);
        }
        bed.undo();
        Checks.due("it isn't any more", bed.patch(5), 0);
        Checks.due("without LEAKS", new AirBed().patch(0), -1);
    }
}
