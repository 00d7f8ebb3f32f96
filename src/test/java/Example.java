/** How a program uses the class: README.md shows it whole, with what it prints. */
public final class Example {
    private static final int LOW = -1000000000;

    public static void main(String[] args) {
        OneGoCeiling x = new OneGoCeiling();
        tell("cells", x.ceiling(3, 4));
        tell("the number of a hand", x.hand(0));
        tell("minute, behind strip 0", x.roll(0, 0, 0));
        tell("minute, behind a pause", x.minutes(5));
        tell("minute, behind strip 1", x.roll(0, 1, 1));
        tell("seams", x.seams(0));
        tell("strip 4 of 4", x.roll(0, 4, 0));
        tell("ERRORS 1 so far", x.told(1));

        tell("the radiator, by strip 0", text(x, 0, "7-(s=0)*3"));
        tell("cell 0 dries in", x.ofCell(0, 2));
        tell("cell 1 dries in", x.ofCell(1, 2));
        tell("a text with a fault", text(x, 1, "1+x"));

        tell("seen by the best order", x.order(0, -1));
        for (int place = 0; place < 4; place++) {
            tell("its strip at place " + place, x.order(0, place));
        }
        tell("a sheet of 8 bits", x.sheet(0, 8, 4));
        for (int place = 0; place < 4; place++) {
            x.put(0, place, place);
        }
        tell("seen by the order on it", x.done(0, 0));

        tell("images", x.image());
        tell("seen behind ten days", x.days(10));
        tell("minute of the image", x.restore());
    }

    /** A text comes to the tape by eight bytes a word at most, the first of them lowest. */
    private static int text(OneGoCeiling x, int use, String text) {
        for (int i = 0; i < text.length(); i += 8) {
            int n = Math.min(8, text.length() - i);
            long word = 0;
            for (int k = n - 1; k >= 0; k--) {
                word = word << 8 | text.charAt(i + k);
            }
            int fed = x.feed(word, n);
            if (fed < LOW) {
                return fed;
            }
        }
        return x.text(use);
    }

    private static void tell(String what, int answer) {
        System.out.println(what + ": " + (answer < LOW ? "ERROR " + (LOW - answer) : answer));
    }
}
