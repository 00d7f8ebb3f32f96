/** Ways to look at all that an object holds, each for an object of its own: most spoil what they look at. */
final class Views {
    static final int COUNT = 10;

    private static final int SHEETS = 4;
    /** This one spoils nothing. */
    static final int PLAIN = SHEETS;

    private static final int WAITING = 20;

    private Views() {
    }

    static String of(int view, Recorded x) {
        StringBuilder b = new StringBuilder();
        if (view < SHEETS) {
            sheet(x, view, b);
            return b.toString();
        }
        switch (view - SHEETS) {
            case PLAIN - SHEETS:
                plain(x, b);
                break;
            case 1:
            case 2:
                b.append(x.text(view - SHEETS - 1)).append(' ');
                laws(x, b);
                break;
            case 3:
                b.append(x.check()).append(' ').append(x.check());
                break;
            case 4:
                b.append(x.image()).append(' ').append(x.restore()).append(' ');
                waiting(x, b);
                break;
            default:
                b.append(x.restore()).append(' ');
                plain(x, b);
        }
        return b.toString();
    }

    private static void plain(Recorded x, StringBuilder b) {
        for (int i = 0; i <= 11; i++) {
            b.append(x.count(i)).append(' ');
        }
        for (int cell = 0; cell < x.count(0); cell++) {
            for (int what = 0; what <= 3; what++) {
                b.append(x.ofCell(cell, what)).append(' ');
            }
        }
        for (int hand = 0; hand < x.count(1); hand++) {
            b.append(x.ofHand(hand, 0)).append(' ').append(x.ofHand(hand, 1)).append(' ');
        }
        for (int i = 0; x.count(10) > i; i++) {
            b.append(x.trace(i)).append(' ');
        }
        laws(x, b);
    }

    private static void laws(Recorded x, StringBuilder b) {
        for (int i = 0; i < 12; i++) {
            b.append(x.law(0, i % 5, i % 3, i)).append(' ').append(x.law(1, i % 5, i % 3, i)).append(' ');
        }
    }

    /** With one strip alone nothing is seen: so the first number that waits and isn't 0 can be told, and the next. */
    private static void waiting(Recorded x, StringBuilder b) {
        x.ceiling(1, 1);
        x.hand(0);
        b.append(x.check()).append(' ');
        for (int i = 0; i < WAITING; i++) {
            b.append(x.tell(0)).append(' ');
        }
        b.append(x.check());
    }

    /** Its numbers one by one, as whites of a ceiling of one cell; then how many there are, and of how many bits. */
    private static void sheet(Recorded x, int sheet, StringBuilder b) {
        b.append(x.judge(sheet)).append(' ');
        x.ceiling(1, 1);
        for (int i = 0; x.move(sheet, i, sheet, 0, 1) == 1; i++) {
            b.append(x.whites(sheet)).append(' ').append(x.ofCell(0, 1)).append(' ');
        }
        int other = (sheet + 1) % SHEETS;
        for (int bits = 8; bits <= 32; bits *= 2) {
            x.sheet(other, bits, 0);
            b.append(x.move(sheet, 0, other, 0, 0)).append(' ');
        }
    }
}
