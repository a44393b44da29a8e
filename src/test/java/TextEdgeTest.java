/** The edges of the TEXT and of promises 1 to 5: one method for each sentence that names one. */
public final class TextEdgeTest {
    private static final String[] WORDS = {"bed", "blower", "turn", "pump", "leak", "trial", "slip", "seed", "law", "lose",
        "fill", "load", "full", "room", "open", "second", "breath", "or", "and", "not"};
    private static final String A = "blower a 1 0 1 1 0 0 0;";
    /** Every LINE there is, a blank behind each TOKEN. */
    private static final String ALL = "bed 90 30 ; blower a 1 0 1 1 0 0 0 ; blower b 2 0 1 1 0 0 0 ; turn a 1 ; pump 1 1 ; "
            + "leak 1 1 ; trial s 1 1 ; slip 1 ; seed 1 ; law lose ( full + 1 ) * 2 - room / 3 < 4 and not 5 ; "
            + "law fill breath <= 1 or open <> 2 ; law load second >= 1 ; ";

    public static void main(String[] args) {
        aTextWithoutLines();
        whatMustCome();
        whatIsNoToken();
        everyByte();
        numbersOfLines();
        lettersOfNames();
        wordsOfTheLanguage();
        numbersEnds();
        numbersOfManyDigits();
        whatIsSoWithout();
        mostOfEachKind();
        namesOfTheirKind();
        toldAlready();
        notToldAhead();
        firstAlongTheText();
        ofOnePlaceTheLeast();
        signsOfTwo();
        oneComparison();
        whereNotStands();
        openBrackets();
        knots();
        knotsOfEachKind();
        newObject();
        fullTape();
        bytesOfTheTape();
        lengthOfText();
        behindAText();
        allStaysWithAFault();
        nothingIsLeftOfTextsAhead();
        nothingIsLeftOfFaults();
        faultOfTheLatest();
        named();
        Checks.finish();
    }

    // ---- Terms: the TEXT

    private static void aTextWithoutLines() {
        Checks.says("A TEXT: { LINE ';' }");
        Checks.taken("", 0);
        Checks.taken(" ", 0);
        Checks.taken("\n \n ", 0);
        Checks.taken("bed 5;", 1);
        Checks.taken("  bed 5 ; \n", 1);
        Checks.fault(";", 1, 0);
        Checks.fault("bed 5;;", 1, 6);
        Checks.fault("bed 5", 1, 5);
        Checks.fault("bed 5 slip 1;", 1, 6);
    }

    private static boolean endsALine(String ahead) {
        return ahead.isBlank() || ahead.stripTrailing().endsWith(";");
    }

    private static void whatMustCome() {
        Checks.says("(the length, if more must come)");
        for (int n = 0; n <= ALL.length(); n++) {
            boolean cut = n == 0 || n == ALL.length() || ALL.charAt(n - 1) == ' ';
            String ahead = ALL.substring(0, n);
            if (cut && endsALine(ahead)) {
                Checks.taken(ahead, (int) ahead.chars().filter(sign -> sign == ';').count());
            } else if (cut) {
                Checks.fault(ahead, 1, n);
                Checks.fault(ahead.stripTrailing(), 1, n - 1);
                Checks.fault(ahead + "\n\n", 1, n + 2);
            }
        }
    }

    private static void whatIsNoToken() {
        Checks.says("1 a TOKEN that is none (a word of more than 6 letters that isn't of the language, too)");
        String[] none = {"?", "Q", "abcdefg", "blowers", "breaths", "seconds", "_", ".", "!", ":", "\t", "\u00ff", "\u0000"};
        for (int n = 0; n < ALL.length(); n++) {
            boolean begins = n == 0 || ALL.charAt(n - 1) == ' ';
            for (int i = 0; i < none.length && begins; i++) {
                Checks.fault(ALL.substring(0, n) + none[i] + " " + ALL.substring(n), 1, n);
            }
        }
    }

    private static void everyByte() {
        Checks.says("Words: small letters in a row; N: digits. Blanks 10, 32.");
        for (int sign = 0; sign < 256; sign++) {
            boolean blank = sign == 10 || sign == 32;
            boolean digit = sign >= 48 && sign <= 57;
            boolean letter = sign >= 97 && sign <= 122;
            String alone = "" + (char) sign;
            String between = "bed" + (char) sign + "5;";
            String name = "trial " + (char) sign + " 1 1;";
            if (blank) {
                Checks.taken(alone, 0);
            } else {
                Checks.fault(alone, 1, 0);
            }
            if (blank || digit) {
                Checks.taken(between, 1);
            } else {
                Checks.fault(between, 1, letter ? 0 : 3);
            }
            if (letter) {
                Checks.taken(name, 1);
            } else {
                Checks.fault(name, 1, blank ? 8 : 6);
            }
        }
        Checks.fault("be d 5;", 1, 0);
        Checks.fault("bed 3 2 1;", 1, 8);
        Checks.fault("bed 1 0 ;slip 9 9;", 1, 16);
    }

    private static void numbersOfLines() {
        Checks.says("LINE: bed N [ N ] | blower W N N N N N N N | turn W N | pump N N | leak N N | trial W N N | slip N | seed N");
        String[] lines = {"blower a 1 0 1 1 0 0 0", "pump 1 1", "leak 1 1", "trial s 1 1", "slip 1", "seed 1"};
        for (String line : lines) {
            Checks.taken(line + ";", 1);
            Checks.fault(line.substring(0, line.length() - 1) + ";", 1, line.length() - 1);
            Checks.fault(line + " 1;", 1, line.length() + 1);
            Checks.fault(line + " a;", 1, line.length() + 1);
        }
        Checks.taken("bed 1;", 1);
        Checks.taken("bed 1 1;", 1);
        Checks.fault("bed ;", 1, 4);
        Checks.fault("bed 1 1 1;", 1, 8);
        Checks.taken(A + "turn a 1;", 2);
        Checks.fault(A + "turn a;", 1, 29);
        Checks.fault(A + "turn a 1 1;", 1, 32);
        Checks.fault(A + "turn 1;", 1, 28);
        Checks.fault("blower 1 0 1 1 0 0 0;", 1, 7);
        Checks.fault("blower a b 1 0 1 1 0 0 0;", 1, 9);
        Checks.fault("trial 1 1;", 1, 6);
        Checks.says("LINE: law KIND E. KIND: lose | fill | load");
        Checks.fault("law;", 1, 3);
        Checks.fault("law 1;", 1, 4);
        Checks.fault("law lose;", 1, 8);
        for (String word : WORDS) {
            boolean kind = word.equals("lose") || word.equals("fill") || word.equals("load");
            if (kind) {
                Checks.taken("law " + word + " 1;", 1);
            } else {
                Checks.fault("law " + word + " 1;", 1, 4);
                Checks.fault("law " + word + ";", 1, 4);
            }
        }
    }

    private static void lettersOfNames() {
        Checks.says("W: one of 1 .. 6 letters");
        String six = "zyxwvu";
        for (int n = 1; n <= 6; n++) {
            Checks.taken("blower " + six.substring(0, n) + " 1 0 1 1 0 0 0;turn " + six.substring(0, n) + " 1;", 2);
            Checks.taken("trial " + six.substring(0, n) + " 1 1;", 1);
        }
        Checks.fault("blower zyxwvut 1 0 1 1 0 0 0;", 1, 7);
        Checks.fault("trial zyxwvut 1 1;", 1, 6);
        AirBed cut = new AirBed();
        Checks.feed(cut, "turn abcdefg 1;");
        Checks.due("a seventh letter behind the n-th byte", cut.text(11), -1);
        Checks.due("six letters", cut.fault(0), 4);
        Checks.feed(cut, "turn abcdefg 1;");
        Checks.due("a seventh letter as the n-th byte", cut.text(12), -1);
        Checks.due("seven letters", cut.fault(0), 1);
        Checks.feed(cut, " ".repeat(689) + "turn abcdef");
        Checks.due("six letters up to the 700th byte", cut.text(700), -1);
        Checks.due("six letters", cut.fault(0), 4);
        // its first six letters are a BLOWER
        Checks.fault("blower zyxwvu 1 0 1 1 0 0 0;turn zyxwvut 1;", 1, 33);
    }

    private static void wordsOfTheLanguage() {
        Checks.says("none of those of the language");
        for (String word : WORDS) {
            Checks.fault("blower " + word + " 1 0 1 1 0 0 0;", 1, 7);
            Checks.fault("trial " + word + " 1 1;", 1, 6);
            Checks.fault("turn " + word + " 1;", 1, 5);
            Checks.taken("trial " + word.substring(1) + " 1 1;", 1);
            if (word.length() < 6) {
                Checks.taken("blower " + word + "x 1 0 1 1 0 0 0;", 1);
            }
        }
    }

    private static void ends(String ahead, String behind, int least, int most) {
        int lines = (int) (ahead + behind).chars().filter(sign -> sign == ';').count();
        Checks.taken(ahead + least + behind, lines);
        Checks.taken(ahead + most + behind, lines);
        Checks.fault(ahead + (most + 1) + behind, 2, ahead.length());
        if (least > 0) {
            Checks.fault(ahead + (least - 1) + behind, 2, ahead.length());
        } else {
            Checks.fault(ahead + "-1" + behind, 1, ahead.length());
        }
    }

    private static void numbersEnds() {
        Checks.says("2 too much (at it): a number beyond what is said");
        ends("bed ", ";", 1, 9999);
        ends("bed 9999 ", ";", 0, 9999);
        ends("bed 77 ", ";", 0, 77);
        ends("bed 1 ", ";", 0, 1);
        int[] least = {1, 0, 1, 1, 0, 0, 0};
        int[] most = {99, 20, 20, 9, 99, 9, 99};
        for (int i = 0; i < 7; i++) {
            ends("blower a" + " 1".repeat(i) + " ", " 1".repeat(6 - i) + ";", least[i], most[i]);
        }
        ends(A + "turn a ", ";", 1, 20);
        ends("pump ", " 1;", 1, 99);
        ends("pump 1 ", ";", 1, 99);
        ends("leak ", " 1;", 1, 99);
        ends("leak 1 ", ";", 0, 99);
        ends("trial s ", " 1;", 1, 100);
        ends("trial s 1 ", ";", 1, 99);
        ends("slip ", ";", 0, 999);
        ends("seed ", ";", 0, 99999);
        Checks.says("N of E 0 .. 9999");
        Checks.taken("law lose 0;law fill 9999;law load 1 + 9999;", 3);
        Checks.fault("law lose 10000;", 2, 9);
        Checks.fault("law fill 1 + 10000;", 2, 13);
        Checks.fault("law load (10000);", 2, 10);
    }

    private static void numbersOfManyDigits() {
        Checks.says("N: digits");
        String[] great = {"100000", "2147483648", "4294967297", "18446744073709551617", "1" + "0".repeat(90) + "1"};
        for (String number : great) {
            Checks.fault("bed " + number + ";", 2, 4);
            Checks.fault("slip " + number + ";", 2, 5);
            Checks.fault("law lose " + number + ";", 2, 9);
            Checks.fault("seed " + number + ";", 2, 5);
        }
        Checks.due("zeros ahead", Checks.bed("bed " + "0".repeat(90) + "12;").count(0), 12);
        Checks.due("zeros ahead in E", Checks.bed("law lose " + "0".repeat(90) + "9999;").law(0, 0), 9999);
        Checks.fault("bed " + "0".repeat(90) + ";", 2, 4);
    }

    private static void whatIsSoWithout() {
        Checks.says("HOLDS (500 without), FULL at first (0), slip (0), seed (0)");
        Checks.due("HOLDS", Checks.bed("slip 9;").count(0), 500);
        Checks.due("FULL", Checks.bed("slip 9;").count(1), 0);
        Checks.due("FULL of a bed told", Checks.bed("bed 9;").count(1), 0);
        Checks.due("HOLDS behind another text", holdsBehindAnother(), 500);
        Checks.due("slip", Checks.bed("bed 9 9;law lose open;").chance(0, 1, 9), 10);
        AirBed like = Checks.bed("leak 50 0;leak 50 0;seed 0;");
        Checks.due("seed", Checks.bed("leak 50 0;leak 50 0;").leak(), like.leak());
    }

    private static int holdsBehindAnother() {
        AirBed bed = Checks.bed("bed 7 7;slip 5;");
        Checks.tell(bed, "slip 9;");
        Checks.due("FULL behind another text", bed.count(1), 0);
        return bed.count(0);
    }

    private static void mostOfEachKind() {
        Checks.says("a fifth blower and so on (at the word of the LINE)");
        String four = A + "blower b 1 0 1 1 0 0 0;blower c 1 0 1 1 0 0 0;blower d 1 0 1 1 0 0 0;";
        Checks.due("BLOWERS", Checks.bed(four).count(2), 4);
        Checks.fault(four + "blower e 1 0 1 1 0 0 0;", 2, 92);
        Checks.fault(four + "blower a", 2, 92);
        Checks.fault(four + "blower ?", 2, 92);
        String eight = A + "turn a 1;".repeat(8);
        Checks.due("TURNS", Checks.bed(eight).count(3), 8);
        Checks.fault(eight + "turn a 1;", 2, 95);
        Checks.fault(eight + "turn x 1;", 2, 95);
        String six = "leak 1 1;".repeat(6);
        Checks.due("LEAKS", Checks.bed(six).count(4), 6);
        Checks.fault(six + "leak 1 1;", 2, 54);
        Checks.fault(six + "leak 0 1;", 2, 54);
        String three = "trial a 1 1;trial b 1 1;trial c 1 1;";
        Checks.due("TRIALS", Checks.bed(three).count(5), 3);
        Checks.fault(three + "trial d 1 1;", 2, 36);
        Checks.fault(three + "trial", 2, 36);
        Checks.due("the most of all", Checks.bed(four + "turn a 1;".repeat(8) + six + three).count(3), 8);
    }

    private static void namesOfTheirKind() {
        Checks.says("BLOWERS, TRIALS have names of their kind");
        AirBed bed = Checks.bed(A + "trial b 1 1;trial a 1 1;blower b 1 0 1 1 0 0 0;");
        Checks.due("BLOWER b", bed.named(0, Checks.letters("b")), 1);
        Checks.due("TRIAL b", bed.named(1, Checks.letters("b")), 0);
    }

    private static void toldAlready() {
        Checks.says("3 told already: a name of its kind (at W), bed, pump, slip, seed (at the word), a law of its KIND (at KIND)");
        Checks.fault(A + "blower a 1 0 1 1 0 0 0;", 3, 30);
        Checks.fault(A + "blower b 1 0 1 1 0 0 0;blower a", 3, 53);
        Checks.taken(A + "blower aa 1 0 1 1 0 0 0;", 2);
        Checks.fault("trial s 1 1;trial t 1 1;trial s", 3, 30);
        Checks.taken("trial s 1 1;trial ss 1 1;", 2);
        Checks.fault("bed 5;bed 5;", 3, 6);
        Checks.fault("bed 5;slip 1;bed", 3, 13);
        Checks.fault("pump 1 1;pump 1 1;", 3, 9);
        Checks.fault("slip 1;slip 1;", 3, 7);
        Checks.fault("seed 1;seed 1;", 3, 7);
        String[] kinds = {"lose", "fill", "load"};
        for (String kind : kinds) {
            Checks.fault("law " + kind + " 1;law " + kind + " 1;", 3, 15);
            Checks.fault("law lose 1;law fill 1;law load 1;law " + kind, 3, 37);
        }
        AirBed bed = Checks.bed("bed 5;pump 1 1;slip 1;seed 1;law lose 1;law fill 1;law load 1;" + A + "trial a 1 1;");
        Checks.due("in another text", Checks.tell(bed, "bed 5;pump 1 1;slip 1;seed 1;law lose 1;law fill 1;law load 1;"
                + A + "trial a 1 1;"), 9);
    }

    private static void notToldAhead() {
        Checks.says("4 a BLOWER that isn't told ahead (at W)");
        Checks.fault("turn a 1;", 4, 5);
        Checks.fault("turn a", 4, 5);
        Checks.fault(A + "turn b 1;", 4, 28);
        Checks.fault(A + "turn aa 1;", 4, 28);
        Checks.fault("turn a 1;" + A, 4, 5);
        Checks.fault("trial a 1 1;turn a 1;", 4, 17);
        AirBed bed = Checks.bed(A);
        Checks.due("of another text", Checks.tell(bed, "turn a 1;"), -1);
        Checks.due("of another text", bed.fault(0), 4);
    }

    private static void firstAlongTheText() {
        Checks.says("the first along the text");
        Checks.fault("bed 0;turn a 1;", 2, 4);
        Checks.fault("turn a 0;bed 0;", 4, 5);
        Checks.fault("turn a ?", 4, 5);
        Checks.fault("blower a 100 ?", 2, 9);
        Checks.fault("bed 5;bed 0;", 3, 6);
        Checks.fault("law lose 1;law lose 10000;", 3, 15);
        Checks.fault("law lose 10000 + ;", 2, 9);
        Checks.fault("law lose 1 + ; bed 0;", 1, 13);
        Checks.fault("bed 10000", 2, 4);
        Checks.fault("leak 0", 2, 5);
    }

    private static void ofOnePlaceTheLeast() {
        Checks.says("of one place the least");
        Checks.fault("bed 5 bed", 1, 6);
        Checks.fault("bed 5 5 10000;", 1, 8);
        Checks.fault("slip slip", 1, 5);
        Checks.fault("turn seed 1;", 1, 5);
        Checks.fault("turn abcdefg 1;", 1, 5);
        Checks.fault("law lose 1 10000;", 1, 11);
        Checks.fault("leak 1 1;".repeat(6) + "slip 1 leak", 1, 61);
        Checks.fault("law lose ((((((((1(", 1, 18);
        String full = "law lose 1" + "+1".repeat(31) + "+";
        Checks.fault(full + ";", 1, full.length());
        Checks.fault(full + "+", 1, full.length());
        Checks.fault(full + "not", 1, full.length());
        Checks.fault(full + ")", 1, full.length());
        Checks.fault(full + "bed", 1, full.length());
        Checks.fault(full + "1", 2, full.length());
        Checks.fault(full + "10000", 2, full.length());
        // 64 KNOTS: the 65th, if it is another comparison, can't stand there
        String compared = "law lose not 1" + "+1".repeat(30) + "<1";
        Checks.fault(compared + "<", 1, compared.length());
        Checks.fault(compared + "+", 2, compared.length());
    }

    private static void signsOfTwo() {
        Checks.says("A = (or > behind <) right behind < or > belongs to it.");
        Checks.due("<=", Checks.bed("law lose 2<=2;").law(0, 0), 1);
        Checks.due(">=", Checks.bed("law lose 2>=2;").law(0, 0), 1);
        Checks.due("<>", Checks.bed("law lose 2<>2;").law(0, 0), 0);
        Checks.fault("law lose 1 < = 2;", 1, 13);
        Checks.fault("law lose 1 > = 2;", 1, 13);
        Checks.fault("law lose 1 <\n> 2;", 1, 13);
        Checks.fault("law lose 1 >< 2;", 1, 12);
        Checks.fault("law lose 1 >> 2;", 1, 12);
        Checks.fault("law lose 1 << 2;", 1, 12);
        Checks.fault("law lose 1 == 2;", 1, 12);
        Checks.fault("law lose 1 =< 2;", 1, 12);
        Checks.fault("law lose 1 => 2;", 1, 12);
        Checks.fault("law lose 1 <=> 2;", 1, 13);
        Checks.fault("law lose 1 <>= 2;", 1, 13);
        Checks.fault("law lose 1 >=", 1, 13);
        AirBed cut = new AirBed();
        Checks.feed(cut, "law lose 1 <= 2;");
        Checks.due("a = behind the n-th byte", cut.text(12), -1);
        Checks.due("it doesn't belong to it", cut.fault(1), 12);
        Checks.feed(cut, " ".repeat(688) + "law lose 1 <");
        Checks.due("< as the 700th byte", cut.text(700), -1);
        Checks.due("the length", cut.fault(1), 700);
        Checks.fault("law lose 1 <", 1, 12);
    }

    private static void oneComparison() {
        Checks.says("C: S [ ( < | <= | = | <> | >= | > ) S ]");
        String[] signs = {"<", "<=", "=", "<>", ">=", ">"};
        for (String sign : signs) {
            Checks.taken("law lose 1" + sign + "1;", 1);
            Checks.taken("law lose (1" + sign + "1)" + sign + "(1" + sign + "1);", 1);
            Checks.taken("law lose 1" + sign + "1 and 1" + sign + "1 or 1" + sign + "1;", 1);
            Checks.taken("law lose not 1" + sign + "1;", 1);
            Checks.fault("law lose 1" + sign + "1" + sign + "1;", 1, 11 + sign.length());
            Checks.fault("law lose 1" + sign + "1+1*1" + sign + "1;", 1, 15 + sign.length());
            Checks.fault("law lose (1" + sign + "1" + sign + "1);", 1, 12 + sign.length());
            Checks.fault("law lose " + sign + "1;", 1, 9);
        }
    }

    private static void whereNotStands() {
        Checks.says("B: not B | C");
        Checks.taken("law lose not not not 1;", 1);
        Checks.taken("law lose 1 and not 1 or not not 1;", 1);
        Checks.taken("law lose 1 + (not 1);", 1);
        Checks.fault("law lose not;", 1, 12);
        Checks.fault("law lose 1 not 1;", 1, 11);
        Checks.fault("law lose 1 + not 1;", 1, 13);
        Checks.fault("law lose 1 * not 1;", 1, 13);
        Checks.fault("law lose 1 < not 1;", 1, 13);
        Checks.fault("law lose not and 1;", 1, 13);
        Checks.fault("law lose 1 and or 1;", 1, 15);
        Checks.fault("law lose or 1;", 1, 9);
    }

    private static void openBrackets() {
        Checks.says("a ninth '(' open");
        Checks.taken("law lose ((((((((1))))))));", 1);
        Checks.fault("law lose (((((((((1)))))))));", 2, 17);
        Checks.taken("law lose ((((((((1)+(1)))))))) + ((((((((1))))))));", 1);
        Checks.fault("law lose (((((((1)+((1", 1, 22);
        Checks.fault("law lose ((((((((1)+((1", 2, 21);
        Checks.fault("law lose not (((((((not ((1", 2, 25);
        Checks.taken("law lose ((((((((1))))))));law fill ((((((((1))))))));", 2);
        Checks.fault("law lose (1));", 1, 12);
        Checks.fault("law lose ();", 1, 10);
        Checks.fault("law lose );", 1, 9);
        Checks.fault("law lose (1;", 1, 11);
        Checks.fault("law lose 1 (1);", 1, 11);
    }

    private static void knots() {
        Checks.says("a 65th KNOT of all E");
        Checks.due("64 of one", Checks.bed("law lose not 1" + "+1".repeat(31) + ";").count(6), 64);
        Checks.due("64 of three", Checks.bed("law lose 1" + "+1".repeat(20) + ";law fill 1" + "+1".repeat(10)
                + ";law load not 1;").count(6), 64);
        Checks.fault("law lose not 1" + "+1".repeat(31) + "+1;", 2, 76);
        Checks.fault("law lose 1" + "+1".repeat(31) + "+1;", 2, 73);
        Checks.fault("law lose not 1" + "+1".repeat(31) + ";law fill not", 2, 86);
        Checks.fault("law lose not 1" + "+1".repeat(31) + ";law fill full", 2, 86);
        Checks.taken("law lose not 1" + "+1".repeat(31) + ";law", -1);
        AirBed bed = Checks.bed("law lose not 1" + "+1".repeat(31) + ";");
        Checks.due("in another text", Checks.tell(bed, "law lose not 1" + "+1".repeat(31) + ";"), 1);
        Checks.due("none", Checks.bed("bed 5;").count(6), 0);
        // 64 KNOTS that all wait for what stands to their right
        Checks.due("not 63 times", Checks.bed("law lose " + "not ".repeat(63) + "1;").law(0, 0), 0);
        Checks.due("eight open and 31 signs", Checks.bed("law lose 1-(1-(1-(1-(1-(1-(1-(1-(1"
                + "*1".repeat(23) + "))))))));").law(0, 0), 1);
    }

    private static void knotsOfEachKind() {
        Checks.says("(N, NAMES, signs, not, and, or: one each)");
        String[] joins = {"+", "-", "*", "/", "<", "<=", "=", "<>", ">=", ">", " and ", " or "};
        for (String join : joins) {
            Checks.due("1" + join + "1", Checks.bed("law lose 1" + join + "1;").count(6), 3);
        }
        String[] names = {"full", "room", "open", "load", "second", "breath"};
        for (String name : names) {
            Checks.due(name, Checks.bed("law fill " + name + ";").count(6), 1);
        }
        Checks.due("not 1", Checks.bed("law lose not 1;").count(6), 2);
        Checks.due("((9999))", Checks.bed("law lose ((9999));").count(6), 1);
    }

    // ---- promises 1 to 5

    private static void newObject() {
        Checks.says("A TEXT without LINES; an empty TAPE.");
        AirBed bed = new AirBed();
        Checks.due("text(1)", bed.text(1), -2);
        int[] counts = {500, 0, 0, 0, 0, 0, 0, 0, 0, -1, 0, 0, 0, 0};
        for (int what = 0; what < counts.length; what++) {
            Checks.due("count(" + what + ")", bed.count(what), counts[what]);
        }
        Checks.due("fault(0)", bed.fault(0), 0);
        Checks.due("fault(1)", bed.fault(1), -1);
        Checks.due("text(0)", bed.text(0), 0);
        Checks.due("first feed", bed.feed(0, 0, 0, 0, 0), 20);
    }

    private static void fullTape() {
        Checks.says("NONE, and none come, if it would have more than 700.");
        String text = "bed 123;" + " ".repeat(684) + "slip 1;" + "!";
        AirBed bed = new AirBed();
        Checks.due("700", Checks.feed(bed, text), 700);
        Checks.due("720", bed.feed(0x3b3b3b3b, 0x3b3b3b3b, 0x3b3b3b3b, 0x3b3b3b3b, 0x3b3b3b3b), -1);
        Checks.due("720 again", bed.feed(0, 0, 0, 0, 0), -1);
        Checks.due("text(701)", bed.text(701), -2);
        Checks.due("text(720)", bed.text(720), -2);
        Checks.due("text(699)", bed.text(699), 2);
        Checks.due("HOLDS", bed.count(0), 123);
        Checks.due("from the first byte again", bed.feed(0, 0, 0, 0, 0), 20);
        AirBed full = new AirBed();
        Checks.feed(full, text);
        Checks.due("text(700)", full.text(700), -1);
        Checks.due("its 700th byte", full.fault(1), 699);
        AirBed last = new AirBed();
        Checks.due("700 bytes that are a text", Checks.tell(last, "bed 7;" + " ".repeat(687) + "slip 1;"), 2);
        Checks.due("700 bytes and more to come", Checks.tell(last, "bed 7;" + " ".repeat(688) + "slip 1"), -1);
        Checks.due("its length", last.fault(1), 700);
    }

    private static void bytesOfTheTape() {
        Checks.says("Twenty bytes come behind the TAPE, four of each number, the highest first: how many it has");
        AirBed bed = new AirBed();
        // "bed 1234 567;leak 89" " 10;"
        Checks.due("20", bed.feed(0x62656420, 0x31323334, 0x20353637, 0x3b6c6561, 0x6b203839), 20);
        Checks.due("40", bed.feed(0x2031303b, -1, -1, -1, -1), 40);
        Checks.due("text(24)", bed.text(24), 2);
        Checks.due("HOLDS", bed.count(0), 1234);
        Checks.due("FULL", bed.count(1), 567);
        AirBed high = new AirBed();
        high.feed(0x20200aff, 0, 0, 0, 0);
        Checks.due("a byte of 255", high.text(4), -1);
        Checks.due("its place", high.fault(1), 3);
        high.feed(0x80202020, 0, 0, 0, 0);
        Checks.due("a byte of 128", high.text(4), -1);
        Checks.due("its place", high.fault(1), 0);
    }

    private static void lengthOfText() {
        Checks.says("-2, and the TAPE stays: there are not so many, n is below 0.");
        AirBed bed = new AirBed();
        Checks.feed(bed, "bed 5;slip 1;seed 1;");
        Checks.due("text(21)", bed.text(21), -2);
        Checks.due("text(MAX)", bed.text(Integer.MAX_VALUE), -2);
        Checks.due("text(-1)", bed.text(-1), -2);
        Checks.due("text(MIN)", bed.text(Integer.MIN_VALUE), -2);
        Checks.due("HOLDS", bed.count(0), 500);
        Checks.due("fault(0)", bed.fault(0), 0);
        Checks.due("text(20)", bed.text(20), 3);
        Checks.says("The TAPE's first n bytes (it is empty then)");
        Checks.due("text(1)", bed.text(1), -2);
        Checks.feed(bed, "bed 6;slip 1;seed 1;");
        Checks.due("text(6)", bed.text(6), 1);
        Checks.due("the rest is gone", bed.text(1), -2);
        Checks.feed(bed, "bed 6;slip 1;seed 1;");
        Checks.due("text(5)", bed.text(5), -1);
        Checks.due("empty with a FAULT too", bed.text(1), -2);
        Checks.feed(bed, "bed 8;slip 1;seed 1;");
        Checks.due("text(0)", bed.text(0), 0);
        Checks.due("HOLDS", bed.count(0), 500);
        Checks.due("empty behind text(0)", bed.text(1), -2);
    }

    private static void behindAText() {
        Checks.says("(SECOND 0, all fresh, nobody blew yet, nothing patched, no CHEEKS, all KNOWN, no IMAGE, nothing to undo then)");
        String text = "bed 50 9;blower a 5 1 2 1 9 3 0;pump 1 5;leak 1 0;law lose 0;";
        AirBed bed = Checks.bed(text);
        bed.blow(0, 2);
        bed.pump(2);
        bed.patch(0);
        bed.cheek(0, 1, 1, true);
        bed.known(0);
        bed.keep();
        Checks.due("text", Checks.tell(bed, text), 5);
        int[] counts = {50, 9, 1, 0, 1, 0, 1, 0, 5, -1, 0, 0, 0, 0};
        for (int what = 0; what < counts.length; what++) {
            Checks.due("count(" + what + ")", bed.count(what), counts[what]);
        }
        int[] looks = {5, 0, 0, 0, 0};
        for (int what = 0; what < looks.length; what++) {
            Checks.due("look(0, " + what + ")", bed.look(0, what), looks[what]);
        }
        Checks.due("no IMAGE", bed.back(), -1);
        Checks.due("nothing to undo", bed.undo(), -1);
        bed.cheek(0, 1, 1, true);
        Checks.due("all KNOWN", bed.count(12), 1);
        Checks.due("nobody blew yet: no HANDS", bed.blow(0, 1), 14);
        Checks.due("SECONDS", bed.count(7), 1);
    }

    private static AirBed used() {
        AirBed bed = Checks.bed("bed 50 9;blower a 5 1 2 1 9 3 0;turn a 1;pump 1 5;leak 1 0;trial s 5 5;slip 7;seed 3;"
                + "law lose 2;");
        bed.blow(0, 1);
        bed.patch(0);
        bed.cheek(0, 1, 1, true);
        bed.cheek(0, 2, 9, false);
        bed.known(1);
        bed.keep();
        bed.waits(1, true);
        bed.pump(2);
        return bed;
    }

    private static void allStaysWithAFault() {
        Checks.says("NONE with a FAULT, all stays");
        AirBed bed = used();
        Checks.due("a FAULT at its end", Checks.tell(bed, "bed 60 8;blower b 9 9 9 9 9 9 9;turn b 5;pump 9 9;leak 9 9;"
                + "leak 9 9;trial q 100 1;slip 9;seed 9;law lose 9;law fill 9;law load 9;?"), -1);
        Checks.due("the BLOWER's name", bed.named(0, Checks.letters("a")), 0);
        Checks.due("no other BLOWER's name", bed.named(0, Checks.letters("b")), -1);
        Checks.due("the TRIAL's name", bed.named(1, Checks.letters("s")), 0);
        Checks.due("no other TRIAL's name", bed.named(1, Checks.letters("q")), -1);
        String so = Whole.of(bed).replace("fault 1 129\n", "fault 0 -1\n");
        Checks.due("all is as it was", so.equals(Whole.of(used())), true);
        AirBed other = used();
        Checks.due("a FAULT at its beginning", Checks.tell(other, "?"), -1);
        so = Whole.of(other).replace("fault 1 0\n", "fault 0 -1\n");
        Checks.due("all is as it was", so.equals(Whole.of(used())), true);
    }

    private static void nothingIsLeftOfTextsAhead() {
        Checks.says("A TEXT without LINES");
        String text = "bed 50 9;blower a 5 1 2 1 9 3 0;turn a 1;pump 1 5;leak 1 0;trial s 5 5;slip 999;seed 3;law lose open;"
                + "law fill load;law load 7;";
        for (int texts = 1; texts <= 3; texts++) {
            AirBed bed = new AirBed();
            for (int i = 0; i < texts; i++) {
                Checks.due("lines", Checks.tell(bed, text), 11);
            }
            Checks.due("no lines", bed.text(0), 0);
            Checks.due("as new behind " + texts, Whole.of(bed).equals(Whole.of(new AirBed())), true);
        }
        AirBed knots = new AirBed();
        for (int i = 0; i < 4; i++) {
            Checks.due("64 KNOTS", Checks.tell(knots, "law lose not 1" + "-1".repeat(31) + ";"), 1);
            Checks.due("KNOTS", knots.count(6), 64);
            Checks.due("its value", knots.law(0, 0), 0);
            Checks.due("no other law", knots.law(1, 0), Long.MIN_VALUE);
        }
        AirBed slip = Checks.bed("bed 9 9;law lose open;slip 999;");
        Checks.tell(slip, "bed 9 9;law lose open;slip 999;");
        Checks.tell(slip, "bed 9 9;law lose open;");
        Checks.due("slip 0", slip.chance(0, 1, 9), 10);
        AirBed seed = Checks.bed("seed 3;leak 1 0;leak 2 0;leak 1 0;");
        Checks.tell(seed, "seed 3;leak 1 0;leak 2 0;leak 1 0;");
        Checks.tell(seed, "leak 1 0;leak 2 0;leak 1 0;");
        Checks.due("seed 0", seed.leak(), 0);
    }

    private static void nothingIsLeftOfFaults() {
        Checks.says("NONE with a FAULT: the next one is read as the first");
        String[] faults = {"law lose ((((((((1", "law lose 1 +", "law lose not not", "law lose 1 or 2 and 3 < 4 + 5 *",
            "law lose (1 + (2 * (", "bed 5;pump 1 1;slip 1;seed 1;law lose 1;law fill 1;law load 1;" + A + "trial a 1 1;?"};
        for (String fault : faults) {
            AirBed bed = new AirBed();
            for (int i = 0; i < 12; i++) {
                Checks.due(fault, Checks.tell(bed, fault), -1);
            }
            Checks.due("lines", Checks.tell(bed, "bed 9 4;law fill 5 - 2;law lose ((((((((7))))))));law load 6;"), 4);
            Checks.due("lose", bed.law(0, 0), 7);
            Checks.due("fill", bed.law(1, 0), 3);
            Checks.due("load", bed.law(2, 0), 6);
            Checks.due("KNOTS", bed.count(6), 5);
            AirBed other = new AirBed();
            Checks.tell(other, fault);
            Checks.due("none", Checks.tell(other, fault), -1);
            Checks.due("no lines", other.text(0), 0);
            Checks.due("as new", Whole.of(other).equals(Whole.of(new AirBed())), true);
        }
    }

    private static void faultOfTheLatest() {
        Checks.says("Of the latest text() that was not -2, what 0: its FAULT (0), 1: its place (NONE without). NONE for another what.");
        AirBed bed = new AirBed();
        Checks.tell(bed, "bed 5 6;");
        Checks.due("fault(0)", bed.fault(0), 2);
        Checks.due("fault(1)", bed.fault(1), 6);
        Checks.due("text(9)", bed.text(9), -2);
        Checks.due("text(-1)", bed.text(-1), -2);
        Checks.due("fault(0) behind -2", bed.fault(0), 2);
        Checks.due("fault(1) behind -2", bed.fault(1), 6);
        Checks.due("fault(2)", bed.fault(2), -1);
        Checks.due("fault(-1)", bed.fault(-1), -1);
        Checks.due("fault(MIN)", bed.fault(Integer.MIN_VALUE), -1);
        Checks.tell(bed, "turn a 1;");
        Checks.due("the latest", bed.fault(0), 4);
        Checks.due("text(0)", bed.text(0), 0);
        Checks.due("fault(0) of none", bed.fault(0), 0);
        Checks.due("fault(1) of none", bed.fault(1), -1);
        Checks.tell(bed, "?");
        Checks.due("place 0", bed.fault(1), 0);
    }

    private static void named() {
        Checks.says("5 bits each (a is 1; the first one highest of six, 0 behind the last one); NONE: there is none such.");
        String[] names = {"a", "zz", "abc", "wxyz"};
        StringBuilder text = new StringBuilder();
        for (String name : names) {
            text.append("blower ").append(name).append(" 1 0 1 1 0 0 0;");
        }
        AirBed bed = Checks.bed(text + "trial vwxyz 1 1;trial zzzzzz 1 1;trial aaaaaa 1 1;");
        int[] blowers = {1 << 25, 26 << 25 | 26 << 20, 1 << 25 | 2 << 20 | 3 << 15,
            23 << 25 | 24 << 20 | 25 << 15 | 26 << 10};
        for (int i = 0; i < 4; i++) {
            Checks.due("BLOWER " + i, bed.named(0, blowers[i]), i);
            Checks.due("no such TRIAL", bed.named(1, blowers[i]), -1);
            Checks.due("a bit more", bed.named(0, blowers[i] | 1), -1);
            Checks.due("bit 30", bed.named(0, blowers[i] | 1 << 30), -1);
            Checks.due("bit 31", bed.named(0, blowers[i] | 1 << 31), -1);
        }
        Checks.due("TRIAL 0", bed.named(1, 22 << 25 | 23 << 20 | 24 << 15 | 25 << 10 | 26 << 5), 0);
        Checks.due("TRIAL 1", bed.named(1, 26 << 25 | 26 << 20 | 26 << 15 | 26 << 10 | 26 << 5 | 26), 1);
        Checks.due("TRIAL 2", bed.named(1, 1 << 25 | 1 << 20 | 1 << 15 | 1 << 10 | 1 << 5 | 1), 2);
        Checks.due("no letters", bed.named(0, 0), -1);
        Checks.due("no letters", bed.named(1, 0), -1);
        Checks.due("what -1", bed.named(-1, blowers[0]), -1);
        Checks.due("what 2", bed.named(2, blowers[0]), -1);
        Checks.due("without BLOWERS", new AirBed().named(0, blowers[0]), -1);
        Checks.tell(bed, "blower zz 1 0 1 1 0 0 0;");
        Checks.due("of the TEXT ahead", bed.named(0, blowers[0]), -1);
        Checks.due("of this TEXT", bed.named(0, blowers[1]), 0);
        Checks.due("no TRIALS", bed.named(1, 26 << 25 | 26 << 20 | 26 << 15 | 26 << 10 | 26 << 5 | 26), -1);
    }
}
