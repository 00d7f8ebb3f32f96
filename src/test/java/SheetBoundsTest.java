/** Term 4, SHEETS, and the promises of sheets, images and what is told: each bound just inside, and just outside. */
public final class SheetBoundsTest extends Checks {
    private static final int MOST = 40;

    private static void noSuchSheet(String what, Recorded x, Asked call) {
        for (int sheet : new int[] {-1, 4, MIN, MAX}) {
            refuse(what + " of sheet " + sheet, x, BEYOND, o -> call.of(o, sheet));
        }
    }

    private static void missingSheet(String what, Recorded x, int sheet, Asked call) {
        refuse(what + " of a missing sheet", x, NONE, o -> call.of(o, sheet));
    }

    private static void fourSheets() {
        sentence("SHEETS 0 .. 3 are rows of 8, 16, 32 bits, at most 40 numbers, or missing (as at first).");
        Recorded x = rich();
        noSuchSheet("sheet", x, (o, v) -> o.sheet(v, 8, 1));
        noSuchSheet("sheet, missing,", x, (o, v) -> o.sheet(v, 0, 1));
        noSuchSheet("put", x, (o, v) -> o.put(v, 0, 1));
        noSuchSheet("move from", x, (o, v) -> o.move(v, 0, 2, 0, 1));
        noSuchSheet("move to", x, (o, v) -> o.move(2, 0, v, 0, 1));
        noSuchSheet("whites", x, Recorded::whites);
        noSuchSheet("judge", x, Recorded::judge);
        noSuchSheet("done", x, (o, v) -> o.done(0, v));
        noSuchSheet("whose", x, (o, v) -> o.whose(0, 0, v));
        for (int sheet = 0; sheet <= 3; sheet++) {
            Recorded at = made(1, 1, 0);
            everyActMisses(at, sheet);
            due("sheet", at.sheet(sheet, 8, 1), 1);
            due("put", at.put(sheet, 0, 2), 1);
            due("move", at.move(sheet, 0, sheet, 0, 1), 1);
            due("whites", at.whites(sheet), 1);
            due("judge", at.judge(sheet), 0);
            due("whose", at.whose(0, 0, sheet), 0);
            at.put(sheet, 0, 0);
            due("done", at.done(0, sheet), 0);
            for (int n : new int[] {1, 0, -1, MOST + 1, MIN, MAX}) {
                due("missing again", at.sheet(sheet, 0, n), 1);
                everyActMisses(at, sheet);
                at.sheet(sheet, 16, 1);
            }
        }
    }

    private static void everyActMisses(Recorded x, int sheet) {
        missingSheet("put", x, sheet, (o, v) -> o.put(v, 0, 1));
        missingSheet("move", x, sheet, (o, v) -> o.move(v, 0, v, 0, 0));
        missingSheet("whites", x, sheet, Recorded::whites);
        missingSheet("judge", x, sheet, Recorded::judge);
        missingSheet("done", x, sheet, (o, v) -> o.done(0, v));
        missingSheet("whose", x, sheet, (o, v) -> o.whose(0, 0, v));
    }

    private static void bitsAndNumbers() {
        sentence("A SHEET has n numbers, all 0, of so many bits (8, 16, 32; 0: it is missing, n doesn't matter): 1.");
        int[] unlike = {-8, -1, 1, 7, 9, 15, 17, 24, 31, 33, 64, MIN, MAX};
        for (int bits : unlike) {
            for (int n : new int[] {3, 0, MOST + 1, -1}) {
                refuse("sheet of " + bits + " bits", rich(), BEYOND, o -> o.sheet(1, bits, n));
            }
        }
        for (int bits = 8; bits <= 32; bits *= 2) {
            int b = bits;
            for (int n : new int[] {0, 1, 39, MOST}) {
                Recorded x = rich();
                due("sheet", x.sheet(1, bits, n), 1);
                refuse("a number behind the last", x, BEYOND, o -> o.put(1, n, 5));
                refuse("a number ahead of the first", x, BEYOND, o -> o.put(1, -1, 5));
                refuse("a far number", x, BEYOND, o -> o.put(1, MAX, 5));
                refuse("a far number", x, BEYOND, o -> o.put(1, MIN, 5));
                if (n > 0) {
                    take("the first number", x, o -> o.put(1, 0, 5));
                    take("the last number", x, o -> o.put(1, n - 1, 5));
                }
                x.ceiling(6, 6);
                due("as many 0", x.whites(1), Math.min(36, n));
            }
            refuse("41 numbers", rich(), BEYOND, o -> o.sheet(1, b, MOST + 1));
            refuse("far too many", rich(), BEYOND, o -> o.sheet(1, b, MAX));
            refuse("n below 0", rich(), STATE, o -> o.sheet(1, b, -1));
            refuse("n far below 0", rich(), STATE, o -> o.sheet(1, b, MIN));
            refuse("no such sheet, ahead of STATE", rich(), BEYOND, o -> o.sheet(4, b, -1));
        }
        Recorded x = rich();
        sheetOf(x, 1, 16, 5, 6, 7);
        x.sheet(1, 16, 3);
        x.ceiling(1, 3);
        x.whites(1);
        for (int cell = 0; cell < 3; cell++) {
            due("all 0 anew", x.ofCell(cell, 1), 0);
        }
    }

    /** What judge() answers to a number of so many bits, where the only CELL has a WHEN of some MINUTES (-1: none). */
    private static int judged(int bits, int v, int when) {
        Recorded x = made(1, 1, 20);
        if (when > 0) {
            waitUntil(x, when - 1);
            x.roll(0, 0, 0);
        }
        sheetOf(x, 0, bits, v);
        return x.judge(0);
    }

    private static void readsAs(int bits, int v, int when) {
        due(v + " of " + bits + " bits is " + when, judged(bits, v, when), -1);
    }

    private static void isNot(int bits, int v, int when) {
        due(v + " of " + bits + " bits isn't " + when, judged(bits, v, when), 0);
    }

    private static void lowestBits() {
        sentence("Number i of a SHEET becomes v (its lowest bits): 1.");
        readsAs(8, 127, 127);
        readsAs(8, 127 + 256, 127);
        readsAs(8, 127 - 256, 127);
        readsAs(8, 1 + 512, 1);
        readsAs(8, MIN + 1, 1);
        readsAs(8, 255, -1);
        readsAs(8, -1, -1);
        readsAs(8, MAX, -1);
        isNot(8, 128, 128);
        isNot(8, 200, 200);
        isNot(8, 256, 256);
        isNot(8, 127, -1);
        isNot(8, -128, -1);
        readsAs(16, 128, 128);
        readsAs(16, 255, 255);
        readsAs(16, 9901, 9901);
        readsAs(16, 9901 + 65536, 9901);
        readsAs(16, 200 - 65536, 200);
        readsAs(16, MIN + 7, 7);
        readsAs(16, 65535, -1);
        readsAs(16, -1, -1);
        readsAs(16, MAX, -1);
        isNot(16, 255, -1);
        isNot(16, 32767, -1);
        readsAs(32, 200, 200);
        readsAs(32, 9901, 9901);
        readsAs(32, -1, -1);
        isNot(32, 65535, -1);
        isNot(32, 255, -1);
        isNot(32, 65536 + 200, 200);
        isNot(32, MAX, -1);
        isNot(32, MIN, -1);
        Recorded x = made(6, 6, 0);
        x.sheet(0, 8, 36);
        for (int i = 0; i < 36; i++) {
            due("put", x.put(0, i, 99 - i), 1);
        }
        x.whites(0);
        for (int i = 0; i < 36; i++) {
            due("each by itself", x.ofCell(i, 1), 99 - i);
        }
        refuse("no such sheet", rich(), BEYOND, o -> o.put(4, 0, 1));
        refuse("no such sheet, no such number", rich(), BEYOND, o -> o.put(-1, -1, 1));
        refuse("missing, ahead of no such number", rich(), NONE, o -> o.put(3, -1, 1));
        refuse("missing, ahead of no such number", rich(), NONE, o -> o.put(3, MOST, 1));
    }

    private static int[] numbersOf(Recorded x, int sheet, int n) {
        x.ceiling(1, n);
        due("numbers", x.whites(sheet), n);
        int[] numbers = new int[n];
        for (int i = 0; i < n; i++) {
            numbers[i] = x.ofCell(i, 1);
        }
        return numbers;
    }

    /** Every move within a sheet of six numbers, and from it to one of four. */
    private static void moves() {
        sentence("n numbers of a SHEET, from number i on, come to another one (or the same), from its number j on, as they all were: n.");
        int[] from = {1, 2, 3, 4, 5, 6};
        for (int other = 0; other <= 1; other++) {
            int[] to = other == 0 ? from : new int[] {11, 12, 13, 14};
            int at = other;
            for (int i = -1; i <= 7; i++) {
                for (int j = -1; j <= 7; j++) {
                    for (int n = -1; n <= 7; n++) {
                        Recorded x = rich();
                        sheetOf(x, 0, 16, from);
                        if (other == 1) {
                            sheetOf(x, 1, 16, to);
                        }
                        int i0 = i;
                        int j0 = j;
                        int n0 = n;
                        if (i < 0 || j < 0 || n < 0 || i + n > 6 || j + n > to.length) {
                            due("move", x.again().move(0, i, at, j, n), BEYOND);
                            if (n == -1 || n == 3) {
                                refuse("move", x, BEYOND, o -> o.move(0, i0, at, j0, n0));
                            }
                            continue;
                        }
                        int[] due = to.clone();
                        System.arraycopy(from, i, due, j, n);
                        due("move", x.move(0, i, at, j, n), n);
                        int[] numbers = numbersOf(x, at, due.length);
                        for (int k = 0; k < due.length; k++) {
                            due("move " + i + ", " + j + ", " + n + ": number " + k, numbers[k], due[k]);
                        }
                    }
                }
            }
        }
        int[][] far = {{MAX, 0, 1}, {0, MAX, 1}, {0, 0, MAX}, {1, 0, MAX}, {0, 1, MAX}, {MAX, MAX, MAX}, {MAX, 0, MAX},
            {MIN, 0, 1}, {0, MIN, 1}, {0, 0, MIN}, {MIN, MIN, MIN}, {MAX, 0, 0}, {0, MAX, 0}};
        for (int[] f : far) {
            refuse("move far", rich(), BEYOND, o -> o.move(0, f[0], 2, f[1], f[2]));
        }
    }

    private static void fullAndEmptyMoves() {
        sentence("BEYOND: n, i, or j is below 0, or they don't stand there.");
        for (int bits = 8; bits <= 32; bits *= 2) {
            Recorded x = rich();
            x.sheet(0, bits, MOST);
            x.sheet(2, bits, MOST);
            x.sheet(3, bits, 0);
            for (int i = 0; i < MOST; i++) {
                x.put(0, i, i + 1);
            }
            due("all forty", x.again().move(0, 0, 2, 0, MOST), MOST);
            due("all forty onto themselves", x.again().move(0, 0, 0, 0, MOST), MOST);
            due("none of none", x.again().move(3, 0, 3, 0, 0), 0);
            due("none behind the last", x.again().move(0, MOST, 2, MOST, 0), 0);
            refuse("forty-one", x, BEYOND, o -> o.move(0, 0, 2, 0, MOST + 1));
            refuse("one of none", x, BEYOND, o -> o.move(3, 0, 2, 0, 1));
            refuse("one to none", x, BEYOND, o -> o.move(2, 0, 3, 0, 1));
            refuse("none further behind", x, BEYOND, o -> o.move(0, MOST + 1, 2, 0, 0));
            refuse("none further behind", x, BEYOND, o -> o.move(0, 0, 2, MOST + 1, 0));
            due("up by one", x.move(0, 0, 0, 1, MOST - 1), MOST - 1);
            x.ceiling(6, 6);
            x.whites(0);
            for (int i = 0; i < 36; i++) {
                due("up by one", x.ofCell(i, 1), Math.max(1, i));
            }
        }
        sentence("KIND: they are of unlike bits.");
        for (int bits = 8; bits <= 32; bits *= 2) {
            for (int others = 8; others <= 32; others *= 2) {
                Recorded x = rich();
                x.sheet(0, bits, 2);
                x.sheet(1, others, 2);
                if (bits == others) {
                    take("like bits", x, o -> o.move(0, 0, 1, 0, 2));
                } else {
                    refuse("unlike bits", x, KIND, o -> o.move(0, 0, 1, 0, 2));
                    refuse("unlike bits, none of them", x, KIND, o -> o.move(0, 0, 1, 0, 0));
                    refuse("unlike bits, ahead of BEYOND", x, KIND, o -> o.move(0, 0, 1, 0, 3));
                    refuse("unlike bits, ahead of BEYOND", x, KIND, o -> o.move(0, -1, 1, 0, 1));
                    refuse("unlike bits, ahead of BEYOND", x, KIND, o -> o.move(0, 0, 1, MAX, -1));
                }
            }
        }
        sentence("NONE: one is missing.");
        Recorded x = rich();
        refuse("from a missing one", x, NONE, o -> o.move(3, 0, 0, 0, 0));
        refuse("to a missing one", x, NONE, o -> o.move(0, 0, 3, 0, 0));
        refuse("to a missing one, ahead of BEYOND", x, NONE, o -> o.move(0, -1, 3, -1, -1));
        refuse("no such sheet, ahead of NONE", x, BEYOND, o -> o.move(3, 0, 4, 0, 0));
        refuse("no such sheet, ahead of NONE", x, BEYOND, o -> o.move(-1, 0, 3, 0, 0));
        refuse("no such sheet, ahead of KIND", x, BEYOND, o -> o.move(4, 0, 1, 0, 0));
    }

    private static void whitesFrom(int cells, int due, int... numbers) {
        Recorded x = made(1, cells, 0);
        x.sheet(0, 32, cells);
        for (int i = 0; i < cells; i++) {
            x.put(0, i, 50);
        }
        x.whites(0);
        sheetOf(x, 0, 32, numbers);
        due("how many WHITES", x.whites(0), due);
        for (int i = 0; i < cells; i++) {
            due("WHITE " + i, x.ofCell(i, 1), i < due ? numbers[i] : 50);
        }
        for (int k = 1; k <= 5; k++) {
            due("no ERROR", x.told(k), 0);
        }
    }

    private static void whites() {
        sentence("how many, up to the first that is not 0 to 99 (no ERROR then), or for which there is no CELL.");
        whitesFrom(3, 3, 0, 99, 1);
        whitesFrom(3, 2, 0, 99, 100);
        whitesFrom(3, 2, 0, 99, -1);
        whitesFrom(3, 1, 98, 100, 2);
        whitesFrom(3, 0, -1, 2, 3);
        whitesFrom(3, 0, 100, 2, 3);
        whitesFrom(3, 0, MIN, 2, 3);
        whitesFrom(3, 1, 5, MAX, 3);
        whitesFrom(3, 0);
        whitesFrom(3, 1, 7);
        whitesFrom(3, 2, 7, 8);
        whitesFrom(3, 3, 7, 8, 9, 10);
        whitesFrom(3, 3, 7, 8, 9, 100);
        whitesFrom(1, 1, 7, 8);
        Recorded x = made(6, 6, 0);
        x.sheet(0, 16, MOST);
        due("36 CELLS, 40 numbers", x.whites(0), 36);
        x.sheet(0, 16, 35);
        due("36 CELLS, 35 numbers", x.whites(0), 35);
        x.ceiling(1, 1);
        due("one CELL", x.whites(0), 1);
        due("no CELL has a WHEN", x.count(3), 0);
    }

    private static void judgedBy(int due, int... numbers) {
        Recorded x = made(1, 3, 20);
        x.roll(0, 1, 0);
        x.roll(0, 2, 0);
        sheetOf(x, 0, 8, numbers);
        due("the first that isn't so", x.judge(0), due);
        for (int k = 1; k <= 5; k++) {
            due("no ERROR", x.told(k), 0);
        }
    }

    private static void judges() {
        sentence("the first that isn't so (one that lacks, or is too many, too); -1: all are.");
        judgedBy(-1, -1, 1, 2);
        judgedBy(0, 0, 1, 2);
        judgedBy(1, -1, 2, 2);
        judgedBy(1, -1, 0, 3);
        judgedBy(2, -1, 1, 3);
        judgedBy(2, -1, 1, 1);
        judgedBy(0);
        judgedBy(1, -1);
        judgedBy(2, -1, 1);
        judgedBy(1, -1, 2);
        judgedBy(3, -1, 1, 2, -1);
        judgedBy(3, -1, 1, 2, 3, 4);
        judgedBy(2, -1, 1, -1, 3);
        Recorded x = made(6, 6, 0);
        x.sheet(0, 8, MOST);
        for (int i = 0; i < MOST; i++) {
            x.put(0, i, -1);
        }
        due("36 CELLS, 40 numbers", x.judge(0), 36);
        x.sheet(1, 8, 36);
        x.move(0, 0, 1, 0, 36);
        due("none has a WHEN", x.judge(1), -1);
        x.sheet(1, 8, 35);
        x.move(0, 0, 1, 0, 35);
        due("the last lacks", x.judge(1), 35);
    }

    private static void images() {
        sentence("All (but SHEETS, THE TRACE, what told() tells, and how often this was done) is kept as an IMAGE, in place of one ahead: how often that was done.");
        Recorded x = new Recorded();
        refuse("none", x, NONE, Recorded::restore);
        due("once", x.image(), 1);
        Recorded full = rich();
        for (int n = 2; n <= 20; n++) {
            due("how often", full.image(), n);
        }
        due("restored, and how often stays", full.restore(), full.count(2));
        due("how often", full.image(), 21);
        sentence("All is as the IMAGE has it, which stays: MINUTE.");
        // From the fullest to the emptiest, and back.
        Recorded most = rich();
        most.ceiling(6, 6);
        most.hand(69);
        for (int strip = 0; strip < 6; strip++) {
            most.roll(strip, strip, strip % 2);
        }
        most.text(0);
        feedBytes(most, "1+1+1+1+1+1+1+1+1+1+1+1+1+1+1+1+1+1+1+1+1+1+1+1+12");
        while (most.count(9) < 20) {
            most.tell(9);
        }
        Recorded fullest = most.again();
        Recorded empty = new Recorded();
        empty.image();
        empty.ceiling(6, 6);
        for (int hand = 0; hand < 6; hand++) {
            empty.hand(11 * hand);
        }
        textOf(empty, 0, "50");
        textOf(empty, 1, "60");
        empty.roll(5, 5, 0);
        feedBytes(empty, "12345678");
        empty.tell(4);
        empty.set(0, 9);
        empty.set(1, 9);
        empty.set(2, 9);
        empty.set(3, 9);
        empty.seed(9);
        due("MINUTE", empty.restore(), 0);
        due("as at first (1)", plainly(empty).equals(plainly(new Recorded())) ? 1 : 0, 1);
        due("none waits, no hand", empty.check(), 0);
        due("nothing on the tape", empty.text(0), -10);
        most.image();
        most.ceiling(1, 1);
        most.become(5, 0);
        most.text(0);
        most.check();
        most.seed(4);
        textOf(most, 1, "7");
        due("MINUTE", most.restore(), fullest.count(2));
        due("as it was (1)", plainly(most).equals(plainly(fullest)) ? 1 : 0, 1);
        due("its tape", most.text(1), 1);
        due("its tape", most.law(1, 0, 0, 0), 36);
        due("the IMAGE stays", most.restore(), fullest.count(2));
        due("its tape again", most.count(8), 50);
        due("as many wait", most.count(9), 20);
    }

    private static String plainly(Recorded x) {
        return Views.of(Views.PLAIN, x.again());
    }

    private static void imagesLeaveOut() {
        sentence("(but SHEETS, THE TRACE, what told() tells, and how often this was done)");
        Recorded x = made(1, 2, 5);
        sheetOf(x, 0, 8, 5, 6);
        x.voice(0, 0, 1);
        x.set(9, 9);
        x.image();
        sheetOf(x, 0, 16, 7, 8);
        sheetOf(x, 1, 8, 9);
        x.voice(0, 3, 1);
        x.set(9, 9);
        x.image();
        x.restore();
        due("the sheet as it is now", x.whites(0), 2);
        due("the sheet as it is now", x.ofCell(1, 1), 8);
        due("another sheet", x.whites(1), 1);
        due("the trace as it is now", x.count(10), 4);
        due("told() as it is now", x.told(1), 2);
        due("how often", x.image(), 3);
        textOf(x, 0, "50");
        due("DRIES by the new text", x.ofCell(0, 2), 50);
        x.restore();
        due("DRIES by the old one", x.ofCell(0, 2), 7);
        textOf(x, 1, "50");
        sheetOf(x, 0, 8, 1, 3);
        x.roll(0, 0, 0);
        x.roll(0, 1, 0);
        x.whites(0);
        due("LIGHT by the new text", x.seams(1), 50);
        x.image();
        textOf(x, 1, "60");
        due("LIGHT by a newer one", x.seams(1), 60);
        x.restore();
        due("LIGHT by that of the IMAGE", x.seams(1), 50);
    }

    private static void waiting() {
        sentence("One more number waits: how many. FULL: 20 wait.");
        Recorded x = rich();
        int waiting = x.count(9);
        for (int n = waiting + 1; n <= 20; n++) {
            due("how many", x.tell(n % 2 == 0 ? MIN : MAX), n);
            due("how many", x.count(9), n);
        }
        for (int v : new int[] {0, 7, MIN, MAX}) {
            refuse("the 21st", x, FULL, o -> o.tell(v));
        }
        x.check();
        due("none waits", x.count(9), 0);
        due("the first anew", x.tell(0), 1);
    }

    /** The numbers of some strips, the last but one of which may be wrong. */
    private static void checkOf(Recorded x, int strips, int n, int wrongAt) {
        Recorded rolled = x.again();
        Recorded y = x.again();
        for (int i = 0; i < n; i++) {
            rolled.roll(0, i % strips, 0);
            y.tell(rolled.seams(1) + (i >= wrongAt ? 1 : 0));
        }
        String was = plainly(x);
        due("the first of " + n + " that isn't so", y.check(), wrongAt < n ? 1 + wrongAt : 0);
        due("none waits", y.count(9), 0);
        due("none waits", y.check(), 0);
        due("nothing is done (1)", plainly(y).equals(was) ? 1 : 0, 1);
    }

    private static void checks() {
        sentence("are SEEN behind 1, 2, .. STRIPS (0, 1, .. again from 0 behind the last), ROLLED down by HAND 0, one behind the other: 0; else 1 and the place (from 0) of the first that isn't so");
        for (int strips = 1; strips <= 6; strips++) {
            Recorded x = made(2, strips, 30, 0);
            x.set(0, 8);
            x.set(1, 9);
            x.set(3, 7);
            for (int n : new int[] {0, 1, 2, strips, strips + 1, 19, 20}) {
                for (int wrongAt : new int[] {0, 1, n - 2, n - 1, n}) {
                    if (wrongAt >= 0 && n <= 20) {
                        checkOf(x, strips, n, wrongAt);
                    }
                }
            }
            x.roll(1, strips - 1, 1);
            checkOf(x, strips, strips, strips);
        }
        Recorded late = made(1, 2, 0);
        waitUntil(late, 9999);
        late.tell(0);
        late.tell(0);
        late.tell(0);
        due("beyond all bounds of MINUTE", late.check(), 0);
        due("MINUTE stays", late.count(2), 9999);
        Recorded far = made(1, 2, 0);
        far.tell(MIN);
        due("none such", far.check(), 1);
        far.tell(0);
        far.tell(MAX);
        due("none such", far.check(), 2);
        sentence("(each, if there is no HAND).");
        Recorded none = new Recorded();
        due("none waits", none.check(), 0);
        none.tell(0);
        due("the first", none.check(), 1);
        due("none waits", none.check(), 0);
        none.tell(0);
        none.tell(0);
        due("the first", none.check(), 1);
        due("none waits", none.count(9), 0);
        for (int k = 1; k <= 5; k++) {
            due("no ERROR", none.told(k), 0);
        }
    }

    private static void counts() {
        sentence("9 numbers that wait, 10 BODIES in THE TRACE, 11 z (any number).");
        bound("count", rich(), BEYOND, 0, 11, Recorded::count);
        Recorded x = new Recorded();
        int[] atFirst = {16, 0, 0, 0, 20, 0, 20, 3, 0, 0, 0, 1};
        for (int what = 0; what <= 11; what++) {
            due("at first, count of " + what, x.count(what), atFirst[what]);
        }
        Recorded y = rich();
        int[] due = {12, 5, 0, 9, 90, 40, 12, 4, 5, 3, 9, 99};
        for (int what = 0; what <= 11; what++) {
            due("count of " + what, what == 2 ? 0 : y.count(what), due[what]);
        }
        due("MINUTE behind three strips and a pause", y.count(2), 27);
    }

    private static void told() {
        sentence("How many acts have answered an ERROR LOW - k (k 1 .. 5); BEYOND: another k (counted, too).");
        bound("k", rich(), BEYOND, 1, 5, Recorded::told);
        Recorded x = new Recorded();
        for (int k = 1; k <= 5; k++) {
            due("none at first", x.told(k), 0);
        }
        due("k 0", x.told(0), BEYOND);
        due("counted, too", x.told(1), 1);
        due("k 6", x.told(6), BEYOND);
        due("k -1", x.told(-1), BEYOND);
        due("counted, too", x.told(1), 3);
        due("asking counts nothing", x.told(1), 3);
        for (int i = 0; i < 400; i++) {
            x.trace(0);
        }
        due("each NONE", x.told(2), 400);
        due("no STATE", x.told(3), 0);
        due("no FULL", x.told(4), 0);
        due("no KIND", x.told(5), 0);
    }

    public static void main(String[] args) {
        fourSheets();
        bitsAndNumbers();
        lowestBits();
        moves();
        fullAndEmptyMoves();
        whites();
        judges();
        images();
        imagesLeaveOut();
        waiting();
        checks();
        counts();
        told();
        end();
    }
}
