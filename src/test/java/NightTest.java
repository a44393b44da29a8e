/** Promises 15 to 20, 29, 30: how long it lasts, who gets up, the pump lent, chance, tried otherwise. */
public final class NightTest {
    private static final String NIGHT = "bed 100 50;blower a 20 0 2 2 5 1 7;blower b 99 0 1 1 0 0 9;law lose 2 + open * 4;";

    public static void main(String[] args) {
        lasts();
        firm();
        up();
        upEdges();
        cheapest();
        lend();
        chance();
        tried();
        Checks.finish();
    }

    private static void lasts() {
        AirBed bed = Checks.bed("law lose second;");
        Checks.due("0, 1, 2, 3", bed.lasts(10, 5), 4);
        bed.waits(2, false);
        Checks.due("2, 3, 4", bed.lasts(10, 5), 3);
        Checks.due("it is below", bed.lasts(4, 5), 0);
        Checks.due("never below 0", bed.lasts(0, 0), 3600);
        Checks.due("from -1", bed.lasts(-1, 0), -1);
        Checks.due("from 501", bed.lasts(501, 0), -1);
        Checks.due("bound -1", bed.lasts(5, -1), -1);
        Checks.due("bound 10000", bed.lasts(5, 10000), -1);
        Checks.due("bound 9999", bed.lasts(5, 9999), 0);
        AirBed leaking = Checks.bed("leak 1 5;law lose open;");
        Checks.due("the LEAK", leaking.lasts(50, 40), 3);
        leaking.patch(0);
        Checks.due("patched", leaking.lasts(50, 40), 3600);
        Checks.due("the last SECOND", Checks.bed("bed 3600;law lose 1;").lasts(3600, 1), 3600);
        Checks.due("one ahead", Checks.bed("bed 3600;law lose 1;").lasts(3599, 1), 3599);
    }

    private static void firm() {
        AirBed bed = Checks.bed("law lose second;");
        bed.waits(2, false);
        Checks.due("two SECONDS", bed.firm(2, 5), 7);
        Checks.due("one SECOND", bed.firm(1, 5), 5);
        Checks.due("none", bed.firm(0, 9999), 0);
        Checks.due("more than it holds", bed.firm(1, 501), -2);
        Checks.due("60", bed.firm(60, 0), 0);
        Checks.due("61", bed.firm(61, 0), -1);
        Checks.due("-1", bed.firm(-1, 0), -1);
        Checks.due("bound -1", bed.firm(1, -1), -1);
        Checks.due("bound 10000", bed.firm(1, 10000), -1);
        Checks.due("the least, though a greater one doesn't", Checks.bed("bed 100;law lose (full > 50) * 99;").firm(3, 40),
                40);
        Checks.due("all it holds", Checks.bed("bed 10;law lose 1;").firm(6, 5), 10);
        Checks.due("a SECOND more", Checks.bed("bed 10;law lose 1;").firm(7, 5), -2);
    }

    private static void up() {
        AirBed bed = Checks.bed(NIGHT);
        int[] starts = {5, 23, 41};
        Checks.due("three times", bed.up(0, 50, 30), 3);
        for (int k = 0; k < 3; k++) {
            Checks.due("upAt " + k, bed.upAt(0, 50, 30, k), starts[k]);
        }
        Checks.due("no fourth", bed.upAt(0, 50, 30, 3), -2);
        Checks.due("once", bed.up(0, 20, 30), 1);
        Checks.due("n SECONDS ahead of the need", bed.up(0, 6, 30), 0);
        Checks.due("it must be then", bed.up(0, 7, 30), 1);
        Checks.due("b", bed.up(1, 50, 30), 2);
        Checks.due("b, first", bed.upAt(1, 50, 30, 0), 9);
        Checks.due("b, second", bed.upAt(1, 50, 30, 1), 44);
        bed.waits(5, true);
        Checks.due("from now: 20 is below 30", bed.up(0, 50, 30), -2);
        Checks.due("from now, at once", bed.upAt(0, 50, 10, 0), 0);
        AirBed less = Checks.bed("bed 100 50;blower a 20 9 3 1 5 0 0;law lose 2;");
        // 50 at 0; up at 9 (32): 30 + 20, 48 + 11, 57 + 2 = 59 at 12; 57 - 2t: up at 12 + 13
        Checks.due("LESS", less.upAt(0, 60, 30, 1), 25);
        AirBed free = Checks.bed("bed 100 50;blower a 20 9 3 1 0 0 0;law lose 2;");
        // 30 + 20, 48 + 20, 66 + 20 = 86 at 12: up at 12 + 27
        Checks.due("RESTS 0 is fresh at each", free.upAt(0, 60, 30, 1), 39);
        AirBed dizzy = Checks.bed("bed 100 50;blower a 20 9 3 1 5 0 0;law lose 2;");
        dizzy.blow(0, 3);
        // 50 - 2 + 20 - 2 + 11 - 2 + 2 = 77 at 3: fresh each time: 31 is too little, up at 22 (33)
        Checks.due("fresh each time", dizzy.upAt(0, 60, 30, 0), 22);
        Checks.due("31 + 33 - 6 = 58: up at 25 + 13 is above", dizzy.up(0, 60, 30), 3);
    }

    private static void upEdges() {
        AirBed bed = Checks.bed(NIGHT);
        Checks.due("below at first", bed.up(0, 5, 51), -2);
        Checks.due("below at first", bed.upAt(0, 5, 51, 0), -2);
        Checks.due("HANDS bring it below", bed.up(0, 5, 50), -2);
        Checks.due("n 0", bed.up(0, 0, 30), -1);
        Checks.due("n 3601", bed.up(0, 3601, 30), -1);
        Checks.due("n 3600", bed.up(0, 3600, 0), 0);
        Checks.due("bound -1", bed.up(0, 5, -1), -1);
        Checks.due("bound 10000", bed.up(0, 5, 10000), -1);
        Checks.due("no such BLOWER", bed.up(2, 5, 5), -1);
        Checks.due("no such BLOWER", bed.up(-1, 5, 5), -1);
        Checks.due("upAt: no such BLOWER", bed.upAt(2, 5, 5, 0), -1);
        Checks.due("upAt: n 0", bed.upAt(0, 0, 5, 0), -1);
        Checks.due("upAt: bound", bed.upAt(0, 5, 10000, 0), -1);
        Checks.due("upAt: k -1", bed.upAt(0, 50, 30, -1), -1);
        Checks.due("upAt: none", bed.upAt(0, 2, 0, 0), -2);
    }

    private static void cheapest() {
        AirBed bed = Checks.bed(NIGHT);
        Checks.due("a once", bed.cheapest(20, 30, 0), 0);
        Checks.due("a once", bed.cheapest(20, 30, 1), 7);
        Checks.due("b twice", bed.cheapest(50, 30, 0), 1);
        Checks.due("b twice", bed.cheapest(50, 30, 1), 18);
        Checks.due("the first of several", bed.cheapest(2, 30, 0), 0);
        Checks.due("nobody gets up", bed.cheapest(2, 30, 1), 0);
        Checks.due("a can't", bed.cheapest(5, 44, 0), 1);
        Checks.due("none can", bed.cheapest(5, 50, 0), -2);
        Checks.due("none can", bed.cheapest(5, 50, 1), -2);
        Checks.due("no such what", bed.cheapest(5, 5, 2), -1);
        Checks.due("no such what", bed.cheapest(5, 5, -1), -1);
        Checks.due("n 0", bed.cheapest(0, 5, 0), -1);
        Checks.due("n 3601", bed.cheapest(3601, 5, 0), -1);
        Checks.due("bound -1", bed.cheapest(5, -1, 0), -1);
        Checks.due("bound 10000", bed.cheapest(5, 10000, 0), -1);
    }

    private static void lend() {
        AirBed bed = Checks.bed("bed 100 50;pump 10 3;law lose full / 10;");
        Checks.due("late", bed.lend(5, 0), 2);
        Checks.due("late", bed.lend(5, 1), 58);
        Checks.due("just as long", bed.lend(3, 0), 0);
        Checks.due("just as long", bed.lend(3, 1), 64);
        Checks.due("fewer", bed.lend(2, 0), -1);
        bed.pump(1);
        Checks.due("two are left", bed.lend(2, 1), 64);
        Checks.due("fewer", bed.lend(1, 1), -1);
        Checks.due("n 600", bed.lend(600, 0), 598);
        Checks.due("n 601", bed.lend(601, 0), -1);
        Checks.due("n 0", bed.lend(0, 0), -1);
        Checks.due("no such what", bed.lend(5, 2), -1);
        Checks.due("no such what", bed.lend(5, -1), -1);
        Checks.due("no pump", Checks.bed("bed 100 50;").lend(5, 0), -1);
        AirBed early = Checks.bed("bed 100 50;pump 10 3;law lose room / 10;");
        Checks.due("early", early.lend(5, 0), 0);
        Checks.due("the first of several", Checks.bed("bed 100 50;pump 10 3;law lose 1;").lend(9, 0), 0);
    }

    private static void chance() {
        AirBed bed = Checks.bed("bed 100 100;law lose open * 10;slip 500;");
        // of seed 0, modulo 1000: 0 468 988 117 498 927 45 741 122 410 261 52 659 758 87 875 368 233 212 661
        Checks.due("three aren't OPEN", bed.chance(0, 1, 91), 3);
        Checks.due("at least", bed.chance(0, 1, 90), 10);
        Checks.due("two SECONDS: once none", bed.chance(0, 2, 100), 1);
        Checks.due("two SECONDS: six times one at most", bed.chance(0, 2, 90), 6);
        // of 2147483647: 929 409 862 718 713 226 80 63 32 734
        Checks.due("the greatest seed", bed.chance(2147483647, 1, 100), 5);
        Checks.due("seed -1", bed.chance(-1, 1, 100), -1);
        Checks.due("n 0", bed.chance(0, 0, 100), -1);
        Checks.due("n 601", bed.chance(0, 601, 100), -1);
        Checks.due("n 600", bed.chance(0, 600, 0), 10);
        Checks.due("bound -1", bed.chance(0, 1, -1), -1);
        Checks.due("bound 10000", bed.chance(0, 1, 10000), -1);
        Checks.due("nothing went by", bed.count(7), 0);
        AirBed never = Checks.bed("bed 100 100;law lose open * 10;");
        Checks.due("slip 0", never.chance(0, 5, 100), 10);
        AirBed edge = Checks.bed("bed 100 100;law lose open * 10;slip 468;");
        Checks.due("468 isn't below 468", edge.chance(0, 1, 100), 5);
    }

    private static void tried() {
        AirBed bed = Checks.bed("bed 200 100;leak 1 5;leak 1 9;law lose load + open * 10;law load 3;pump 20 1;");
        Checks.due("no LEAK", bed.tried(0, 0, 2), 94);
        Checks.due("OPEN", bed.tried(1, 0, 2), 64);
        Checks.due("no LOAD", bed.tried(2, 0, 2), 90);
        Checks.due("LOAD again", bed.law(0, 0), 3);
        Checks.due("LOAD again", bed.lasts(100, 99), 1);
        Checks.due("LOAD again", bed.tried(0, 0, 1), 97);
        Checks.due("the pump, longer than it is lent", bed.tried(3, 0, 3), 136);
        Checks.due("LEAK 1", bed.tried(4, 1, 2), 76);
        Checks.due("LEAK 0", bed.tried(4, 0, 2), 84);
        Checks.due("0 SECONDS", bed.tried(1, 0, 0), 100);
        Checks.due("3600 SECONDS", bed.tried(1, 0, 3600), 0);
        Checks.due("3601", bed.tried(1, 0, 3601), -1);
        Checks.due("-1", bed.tried(1, 0, -1), -1);
        Checks.due("no such what", bed.tried(5, 0, 1), -1);
        Checks.due("no such what", bed.tried(-1, 0, 1), -1);
        Checks.due("no such LEAK", bed.tried(4, 2, 1), -1);
        Checks.due("no such LEAK", bed.tried(4, -1, 1), -1);
        for (int what = 0; what < 4; what++) {
            Checks.due("i 1 of " + what, bed.tried(what, 1, 1), -1);
        }
        Checks.due("without a pump", Checks.bed("bed 5;").tried(3, 0, 1), -1);
        Checks.due("nothing went by", bed.count(7), 0);
        bed.patch(0);
        Checks.due("patched", bed.tried(4, 0, 2), 94);
        Checks.due("not patched", bed.tried(4, 1, 2), 76);
    }
}
