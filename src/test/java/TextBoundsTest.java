/** Term 2, TEXTS and their USES, and its promises: each bound just inside, and just outside. */
public final class TextBoundsTest extends Checks {
    private static final String DIGITS = "0123456789";
    private static final String SIGNS = "|&<=>+-*/%";
    private static final String NO_COMPARING = "|&+-*/%";
    private static final String ENOUGH = "1+1+1+1+1+1+1+1+1+1+1+1+1+1+1+1+1+1+1+1+1+1+1+1+12";

    /** A text that is read, and what it gives; in place of one ahead. */
    private static void gives(String text, int a, int b, int c, int value) {
        Recorded x = new Recorded();
        textOf(x, 0, "42");
        due(text + " is read", textOf(x, 0, text), 1);
        due(text + " empties the tape", x.count(8), 0);
        due(text + " gives", x.law(0, a, b, c), value);
    }

    private static void is(String text, int value) {
        gives(text, 0, 0, 0, value);
    }

    /** A text with a fault; the one ahead stays. */
    private static void fault(int use, String text, int place) {
        Recorded x = new Recorded();
        textOf(x, use, "42");
        due(text + " has its fault", textOf(x, use, text), -10 - place);
        due(text + " empties the tape", x.count(8), 0);
        due(text + " isn't the text", x.law(use, 0, 0, 0), 42);
        for (int k = 1; k <= 5; k++) {
            due(text + " is no ERROR", x.told(k), 0);
        }
    }

    private static void fault(String text, int place) {
        fault(0, text, place);
    }

    /** Behind some bytes all others but these have the fault at their place. */
    private static void goesOn(int use, String ahead, String signs) {
        for (int v = 0; v <= 255; v++) {
            Recorded x = new Recorded();
            int answer = textOf(x, use, ahead + (char) v);
            boolean isFault = answer == -10 - ahead.length();
            due(ahead + " and byte " + v + ": a fault there (1)", isFault ? 1 : 0, signs.indexOf(v) < 0 ? 1 : 0);
        }
    }

    private static void goesOn(String ahead, String signs) {
        goesOn(0, ahead, signs);
    }

    private static void whatGoesOn() {
        sentence("FAULT: the place of the first byte with which no TEXT goes on");
        String begin = DIGITS + "rsh!(";
        goesOn("", begin);
        goesOn("!", begin);
        goesOn("(", begin);
        goesOn("!!!!", begin);
        goesOn("((((", begin);
        for (int i = 0; i < SIGNS.length(); i++) {
            goesOn("1" + SIGNS.charAt(i), begin);
            goesOn("(r" + SIGNS.charAt(i), begin);
        }
        goesOn("1", DIGITS + SIGNS);
        goesOn("12", DIGITS + SIGNS);
        goesOn("123", DIGITS + SIGNS);
        goesOn("1234", SIGNS);
        goesOn("0000", SIGNS);
        goesOn("!123", DIGITS + SIGNS);
        goesOn("!1234", SIGNS);
        goesOn("r", SIGNS);
        goesOn("!h", SIGNS);
        goesOn("(1", DIGITS + SIGNS + ")");
        goesOn("(1234", SIGNS + ")");
        goesOn("(s", SIGNS + ")");
        goesOn("(1)", SIGNS);
        goesOn("((1)", SIGNS + ")");
        goesOn("((1))", SIGNS);
        sentence("B: S, or S < S, S = S, S > S.");
        for (String comparing : new String[] {"<", "=", ">"}) {
            goesOn("1" + comparing + "r", NO_COMPARING);
            goesOn("1" + comparing + "2", DIGITS + NO_COMPARING);
            goesOn("1" + comparing + "2+s", NO_COMPARING);
            goesOn("1" + comparing + "2*s", NO_COMPARING);
            goesOn("1" + comparing + "2&s", SIGNS);
            goesOn("1" + comparing + "2|s", SIGNS);
            goesOn("(1" + comparing + "s", NO_COMPARING + ")");
            goesOn("(1" + comparing + "s)", SIGNS);
            goesOn("1" + comparing + "(s", SIGNS + ")");
            goesOn("1" + comparing + "(s<2)", NO_COMPARING);
            goesOn("1" + comparing + "!s", NO_COMPARING);
        }
        sentence("No blanks.");
        fault(" ", 0);
        fault(" 1", 0);
        fault("1 ", 1);
        fault("1 +2", 1);
        fault("1+ 2", 2);
        fault("1\t", 1);
        fault("1\n", 1);
    }

    private static void tooEarly() {
        sentence("how many there are, if it ends too early.");
        fault("", 0);
        fault("!", 1);
        fault("(", 1);
        fault("1+", 2);
        fault("1&", 2);
        fault("(1", 2);
        fault("((1)", 4);
        fault("!!!!!", 5);
        fault("(((((", 5);
        String whole = "(1+(r*!s|4)<(h&99))/(2)";
        is(whole, 0);
        // Where nothing is open and a Q has ended, what came so far is a text, too.
        for (int n = 0; n < whole.length(); n++) {
            String part = whole.substring(0, n);
            if (part.endsWith("))")) {
                due(part, textOf(new Recorded(), 0, part), 1);
            } else {
                fault(part, n);
            }
        }
        due("fifty bytes", ENOUGH.length(), 50);
        String early = ENOUGH.substring(0, 48) + "1+";
        fault(early, 50);
        fault(1, early, 50);
        fault(ENOUGH.substring(0, 49) + "+", 50);
        fault(ENOUGH.substring(0, 49) + ")", 49);
        fault(ENOUGH.substring(0, 49) + "r", 49);
        String signs = "!r" + "+r".repeat(24);
        due("fifty bytes, each a sign of its own", signs.length(), 50);
        gives(signs, 4, 0, 0, 96);
        gives(signs, 0, 0, 0, 1);
        is(ENOUGH, 36);
        is(ENOUGH.substring(0, 49), 25);
    }

    private static void numbers() {
        sentence("Q: a NUMBER of 1 to 4 digits, a NAME, ! Q, ( T ).");
        for (int digit = 0; digit <= 9; digit++) {
            is("" + digit, digit);
        }
        is("99", 99);
        is("099", 99);
        is("0099", 99);
        is("0000", 0);
        is("999-900", 99);
        is("9999-9900", 99);
        is("9999=9998+1", 1);
        is("1234%100", 34);
        fault("00000", 4);
        fault("12345", 4);
        fault("1+12345", 6);
        fault("(99999)", 5);
        fault("!99999", 5);
        is("1+1234%100", 35);
    }

    private static void names() {
        sentence("0 DRIES, NAMES r ROW, s STRIP, h HEAT");
        gives("r", 1, 2, 3, 1);
        gives("s", 1, 2, 3, 2);
        gives("h", 1, 2, 3, 3);
        fault(0, "w", 0);
        goesOn(0, "r+", DIGITS + "rsh!(");
        sentence("1 LIGHT (of a SEAM), NAMES r ROW, s the left STRIP, w by how much WHITES differ (without sign)");
        fault(1, "h", 0);
        fault(1, "1+h", 2);
        goesOn(1, "r+", DIGITS + "rsw!(");
        Recorded x = new Recorded();
        due("r*25+s*5+w", textOf(x, 1, "r*25+s*5+w"), 1);
        due("LIGHT", x.law(1, 1, 2, 3), 38);
        due("DRIES is another text", x.law(0, 1, 2, 3), 7);
        sentence("THE TAPE, which is empty then, is the TEXT of a USE (0, 1), in place of one ahead: 1.");
        due("LIGHT anew", textOf(x, 1, "5"), 1);
        due("LIGHT anew", x.law(1, 1, 2, 3), 5);
        bound("a USE", rich(), BEYOND, 0, 1, Recorded::text);
        Recorded whole = rich();
        feedBytes(whole, "+3");
        bound("a USE", whole, BEYOND, 0, 1, Recorded::text);
        Recorded empty = new Recorded();
        bound("a USE", empty, BEYOND, 0, 1, Recorded::text);
    }

    /** Five of ! and ( in every way, by the bits of a number. */
    private static String open(int ways, int n) {
        StringBuilder b = new StringBuilder();
        for (int i = 0; i < n; i++) {
            b.append((ways >> i & 1) == 1 ? '!' : '(');
        }
        return b.toString();
    }

    private static String closed(String open, String q) {
        return open + q + ")".repeat((int) open.chars().filter(c -> c == '(').count());
    }

    private static void openAtOnce() {
        sentence("At most 5 of ! and ( are open at once.");
        for (int ways = 0; ways < 32; ways++) {
            String five = open(ways, 5);
            int bangs = Integer.bitCount(ways);
            is(closed(five, "7"), bangs == 0 ? 7 : bangs % 2 == 0 ? 1 : 0);
            fault(five + "!7", 5);
            fault(five + "(7", 5);
            fault(five + "!", 5);
            fault(five + "(", 5);
            is(closed(five, "7") + "*" + closed(five, "7"), bangs == 0 ? 49 : bangs % 2 == 0 ? 1 : 0);
            String four = open(ways, 4);
            is(closed(four, "!7+" + closed("!", "0")) + "*0+3", 3);
        }
        is("!1+!1+!1+!1+!1+!1+!0", 1);
        is("(1)+(1)+(1)+(1)+(1)+(1)", 6);
        is("(1+!!!!1)", 2);
        fault("(1+!!!!!1)", 7);
        is("(!!!!1)+!!!!!0", 2);
        is("((((1+(1)+(1)+!1+!0))))", 4);
        fault("((((1+((1", 7);
        fault("((((1+(1)+!!1", 11);
        is("!(!(!7))", 0);
        fault("!(!(!(7)))", 5);
        fault("!!!!!!7", 5);
    }

    private static void ints() {
        sentence("Ints that wrap");
        gives("r+1<0", MAX, 0, 0, 1);
        gives("r-1>0", MIN, 0, 0, 1);
        gives("r+s=0-2", MAX, MAX, 0, 1);
        gives("r*2=0", MIN, 0, 0, 1);
        gives("r*s=1", MAX, MAX, 0, 1);
        gives("0-r=r", MIN, 0, 0, 1);
        gives("r*r=0", 65536, 0, 0, 1);
        long cubed = 9999L * 9999L * 9999L;
        is("9999*9999*9999%97+97", Math.min(99, (int) cubed % 97 + 97));
        is("9999*9999*9999<0", (int) cubed < 0 ? 1 : 0);
        sentence("/ cut, % the rest that it leaves, both by 0 are 0");
        is("7/2", 3);
        is("(0-7)/2+20", 17);
        is("7/(0-2)+20", 17);
        is("(0-7)/(0-2)", 3);
        is("7%2", 1);
        is("(0-7)%2+20", 19);
        is("7%(0-2)", 1);
        is("(0-7)%(0-2)+20", 19);
        is("7/0", 0);
        is("7%0", 0);
        is("0/0+0%0", 0);
        is("7/0+5", 5);
        is("9%(3-3)+5", 5);
        gives("r/s+5", MIN, 0, 0, 5);
        gives("r%s+5", MAX, 0, 0, 5);
        gives("r/s<0", MIN, -1, 0, 1);
        gives("r/s=r", MIN, -1, 0, 1);
        gives("r%s+5", MIN, -1, 0, 5);
        gives("r/s", 99, 1, 0, 99);
        gives("r/s", 99, 100, 0, 0);
    }

    private static void truths() {
        sentence("| & < = > ! are 1 or 0, what is not 0 being true; all is worked out.");
        is("0|0", 0);
        is("0|7", 1);
        is("7|0", 1);
        is("7|9", 1);
        is("(0-1)|0", 1);
        is("0&0", 0);
        is("0&7", 0);
        is("7&0", 0);
        is("6&9", 1);
        is("(0-1)&(0-2)", 1);
        is("!0", 1);
        is("!1", 0);
        is("!7", 0);
        is("!(0-1)", 0);
        is("!!7", 1);
        is("7<7", 0);
        is("6<7", 1);
        is("8<7", 0);
        is("7=7", 1);
        is("6=7", 0);
        is("8=7", 0);
        is("7>7", 0);
        is("8>7", 1);
        is("6>7", 0);
        gives("r<s", MIN, MAX, 0, 1);
        gives("r>s", MIN, MAX, 0, 0);
        gives("r=s", MIN, MAX, 0, 0);
        is("(7<9)+(7<9)+(9=9)", 3);
        is("1|0&0", 1);
        is("(1|0)&0", 0);
        is("0&0|1", 1);
        is("1&1&0", 0);
        is("0|0|1", 1);
        is("1+1=2", 1);
        is("2<1+2", 1);
        is("2=2&3", 1);
        is("8-4-2", 2);
        is("80/4/2", 10);
        is("80/4*2", 40);
        is("80*4/2%7", 6);
        is("2+3*4-1", 13);
        is("!2*3", 0);
        is("!0+5", 6);
        is("5+!0*9", 14);
    }

    private static void held() {
        sentence("held within 0 to 99");
        for (int use = 0; use <= 1; use++) {
            Recorded x = new Recorded();
            textOf(x, use, "r");
            int[][] held = {{0, 0}, {1, 1}, {98, 98}, {99, 99}, {100, 99}, {MAX, 99}, {-1, 0}, {-99, 0}, {MIN, 0}};
            for (int[] h : held) {
                due(h[0] + " held", x.law(use, h[0], 0, 0), h[1]);
            }
            textOf(x, use, "9999*9");
            due("held", x.law(use, 0, 0, 0), 99);
            textOf(x, use, "0-9999");
            due("held", x.law(use, 0, 0, 0), 0);
        }
        Recorded x = made(1, 2, 20);
        textOf(x, 0, "150-s*200");
        due("DRIES", x.ofCell(0, 2), 99);
        due("DRIES", x.ofCell(1, 2), 0);
        sentence("without a TEXT 10-h.");
        Recorded y = new Recorded();
        int[][] dries = {{0, 10}, {9, 1}, {10, 0}, {11, 0}, {-88, 98}, {-89, 99}, {-90, 99}, {MAX, 0}};
        for (int[] d : dries) {
            due("10-h by " + d[0], y.law(0, 5, 5, d[0]), d[1]);
        }
        sentence("without a TEXT 1+w.");
        int[][] light = {{0, 1}, {97, 98}, {98, 99}, {99, 99}, {-1, 0}, {-2, 0}, {MIN, 0}};
        for (int[] l : light) {
            due("1+w by " + l[0], y.law(1, 5, 5, l[0]), l[1]);
        }
        sentence("What a USE gives with its NAMES in order as a, b, c.");
        bound("a USE", rich(), BEYOND, 0, 1, (o, v) -> o.law(v, 1, 2, 3));
        bound("a USE", new Recorded(), BEYOND, 0, 1, (o, v) -> o.law(v, MIN, MAX, 0));
    }

    private static Recorded fed(int n) {
        Recorded x = rich();
        x.text(0);
        feedBytes(x, ENOUGH.substring(0, n));
        return x;
    }

    private static void tape() {
        sentence("THE TAPE (bytes, at most 50)");
        for (int n = 1; n <= 8; n++) {
            int bytes = n;
            due("as many as go", fed(50 - n).feed(-1L, n), 50);
            refuse("one too many", fed(51 - n), FULL, o -> o.feed(-1L, bytes));
            refuse("to a full one", fed(50), FULL, o -> o.feed(0x31L, bytes));
            due("to an empty one", fed(0).feed(0L, n), n);
        }
        due("fifty are kept", fed(50).text(0), 1);
        Recorded full = fed(50);
        full.feed(0x32L, 1);
        full.text(0);
        due("and no more", full.law(0, 0, 0, 0), 36);
        due("it takes anew", full.feed(0x32L, 1), 1);
        sentence("The n lowest bytes (1 .. 8) of a word, the lowest first, come to THE TAPE: how many there are.");
        bound("bytes", rich(), BEYOND, 1, 8, (o, v) -> o.feed(0x3131313131313131L, v));
        refuse("BEYOND ahead of FULL", fed(50), BEYOND, o -> o.feed(0x31L, 0));
        refuse("BEYOND ahead of FULL", fed(50), BEYOND, o -> o.feed(0x31L, 9));
        refuse("BEYOND ahead of FULL", fed(43), BEYOND, o -> o.feed(0x31L, 9));
        // From the lowest byte on: 1 - 0 + 8 * 9, and one that begins no sign and has the highest bit.
        long word = 0xA539_2A38_2B30_2D31L;
        int[] answers = {1, -12, 1, -14, 1, -16, 1, -17};
        int[] values = {1, 0, 1, 0, 9, 0, 73, 0};
        for (int n = 1; n <= 8; n++) {
            Recorded x = new Recorded();
            due("bytes", x.feed(word, n), n);
            due("bytes", x.count(8), n);
            due("text of " + n + " bytes", x.text(0), answers[n - 1]);
            due("bytes", x.count(8), 0);
            if (answers[n - 1] == 1) {
                due("law of " + n + " bytes", x.law(0, 0, 0, 0), values[n - 1]);
            }
        }
        Recorded y = new Recorded();
        y.feed(-256L + '7', 1);
        due("none but the lowest", y.text(0), 1);
        for (int v = 128; v <= 255; v++) {
            y.feed(v - 256L, 8);
            due("a byte of " + v, y.text(1), -10);
        }
    }

    private static void wholeTape() {
        sentence("BEYOND (THE TAPE stays).");
        Recorded x = new Recorded();
        feedBytes(x, "7");
        refuse("a USE below", x, BEYOND, o -> o.text(-1));
        refuse("a USE above", x, BEYOND, o -> o.text(2));
        x.text(2);
        due("the tape stays", x.count(8), 1);
        due("and is read", x.text(1), 1);
        due("LIGHT", x.law(1, 0, 0, 0), 7);
        sentence("-10 less the FAULT (no ERROR; the one ahead stays; THE TAPE is empty, too).");
        due("empty", x.text(1), -10);
        due("the one ahead stays", x.law(1, 0, 0, 0), 7);
        due("DRIES has none", x.text(0), -10);
        due("DRIES has none", x.law(0, 0, 0, 4), 6);
    }

    public static void main(String[] args) {
        whatGoesOn();
        tooEarly();
        numbers();
        names();
        openAtOnce();
        ints();
        truths();
        held();
        tape();
        wholeTape();
        end();
    }
}
