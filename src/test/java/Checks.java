/** What the tests share: a bed by its text, and the count of what isn't as due. */
final class Checks {
    private static int wrong = 0;
    private static int asked = 0;
    private static String sentence = "";

    private Checks() {
    }

    /** The sentence of the document that the answers asked from here on stand for. */
    static void says(String words) {
        sentence = "\"" + words + "\": ";
    }

    static void due(String call, long got, long want) {
        asked++;
        if (got != want) {
            wrong++;
            System.out.println(sentence + call + " answered " + got + ", due is " + want);
        }
    }

    static void due(String call, boolean got, boolean want) {
        due(call, got ? 1 : 0, want ? 1 : 0);
    }

    /** Feeds a text behind the tape, blanks behind it up to twenties; answers the last feed. */
    static int feed(AirBed bed, String text) {
        int answer = 0;
        for (int at = 0; at < text.length(); at += 20) {
            int[] five = new int[5];
            for (int i = 0; i < 20; i++) {
                int sign = at + i < text.length() ? text.charAt(at + i) & 255 : ' ';
                five[i / 4] = five[i / 4] << 8 | sign;
            }
            answer = bed.feed(five[0], five[1], five[2], five[3], five[4]);
        }
        return answer;
    }

    static int tell(AirBed bed, String text) {
        feed(bed, text);
        return bed.text(text.length());
    }

    static AirBed bed(String text) {
        AirBed bed = new AirBed();
        if (tell(bed, text) < 0) {
            wrong++;
            System.out.println("fault " + bed.fault(0) + " at " + bed.fault(1) + " in: " + text);
        }
        return bed;
    }

    static void taken(String text, int lines) {
        due("text: " + text, tell(new AirBed(), text), lines);
    }

    static void fault(String text, int what, int at) {
        AirBed bed = new AirBed();
        due("text: " + text, tell(bed, text), AirBed.NONE);
        due("fault(0) of: " + text, bed.fault(0), what);
        due("fault(1) of: " + text, bed.fault(1), at);
    }

    static int letters(String name) {
        int letters = 0;
        for (int i = 0; i < 6; i++) {
            letters = letters << 5 | (i < name.length() ? name.charAt(i) - 96 : 0);
        }
        return letters;
    }

    static void finish() {
        System.out.println(asked + " answers asked, " + wrong + " not as due");
        if (wrong != 0 || asked == 0) {
            System.exit(1);
        }
    }
}
