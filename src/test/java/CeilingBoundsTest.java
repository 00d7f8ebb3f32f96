/** Term 1, the ceiling, the can, hands, ROLL, SEAMS, and its promises: each bound just inside, and just outside. */
public final class CeilingBoundsTest extends Checks {
    private static final int[] BY_FOUR = {0, 0, 0, 0, 1, 1, 1, 1, 2, 2};
    private static final int[] MODULO_THREE = {0, 1, 2, 0, 1, 2, 0, 1, 2, 0};
    private static final int[] MODULO_TWO = {0, 1, 0, 1, 0, 1, 0, 1, 0, 1};

    /** WHENS of six CELLS of a STRIP, the first first, from MINUTE 0 on; written out, not worked out. */
    private static int[] whens(int kind, int m) {
        int[][] rolling = {{1, 2, 3, 5, 6, 7}, {1, 2, 3, 4, 6, 7}, {1, 2, 3, 4, 5, 7}};
        int[][] stilted = {{3, 6, 10, 13, 17, 20}, {4, 8, 13, 17, 22, 26}, {5, 10, 16, 21, 27, 32}};
        int[][] tired = {{1, 2, 4, 6, 9, 11}, {1, 2, 3, 6, 8, 10}, {1, 2, 3, 5, 8, 10}};
        switch (kind) {
            case 0: return new int[] {2, 4, 7, 9, 12, 14};
            case 1: return new int[] {3, 6, 10, 13, 17, 20};
            case 2: return rolling[MODULO_THREE[m]];
            case 3: return new int[] {1, 1, 2, 2, 3, 3};
            case 4: return stilted[BY_FOUR[m]];
            case 5: return tired[MODULO_THREE[m]];
            default: return new int[] {1, 1, 2, 2, 4, 4};
        }
    }

    private static void rowsAndStrips() {
        sentence("THE CEILING has ROWS (1 to 6, from the window) and STRIPS (1 to 6, from the left) of CELLS");
        bound("ROWS", rich(), BEYOND, 1, 6, (o, v) -> o.ceiling(v, 3));
        bound("STRIPS", rich(), BEYOND, 1, 6, (o, v) -> o.ceiling(3, v));
        bound("ROWS and STRIPS", rich(), BEYOND, 1, 6, (o, v) -> o.ceiling(v, v));
        for (int rows = 1; rows <= 6; rows++) {
            for (int strips = 1; strips <= 6; strips++) {
                Recorded x = new Recorded();
                due("ceiling", x.ceiling(rows, strips), rows * strips);
                due("CELLS", x.count(0), rows * strips);
                x.hand(20);
                bound("a CELL", x, BEYOND, 0, rows * strips - 1, (o, v) -> o.ofCell(v, 0));
                bound("a STRIP", x, BEYOND, 0, strips - 1, (o, v) -> o.roll(0, v, 0));
            }
        }
    }

    private static void cellsByRows() {
        sentence("(the CELL of a ROW and a STRIP is ROW times STRIPS, and the STRIP)");
        int[] whens = whens(2, 0);
        for (int rows = 1; rows <= 6; rows++) {
            for (int strips = 1; strips <= 6; strips++) {
                Recorded x = made(rows, strips, 20);
                for (int strip = 0; strip < strips; strip++) {
                    x.roll(0, strip, 0);
                }
                for (int row = 0; row < rows; row++) {
                    for (int strip = 0; strip < strips; strip++) {
                        int due = strip * whens[rows - 1] + whens[row];
                        due("WHEN of " + row + ", " + strip, x.ofCell(row * strips + strip, 0), due);
                    }
                }
            }
        }
    }

    private static void atFirst() {
        sentence("4 by 4 at first.");
        Recorded x = new Recorded();
        x.hand(30);
        due("CELLS", x.count(0), 16);
        bound("a CELL", x, BEYOND, 0, 15, (o, v) -> o.ofCell(v, 0));
        bound("a STRIP", x, BEYOND, 0, 3, (o, v) -> o.roll(0, v, 0));
        x.set(2, 7);
        x.roll(0, 3, 0);
        for (int cell = 0; cell < 16; cell++) {
            due("rolled (1), cell " + cell, x.ofCell(cell, 0) >= 0 ? 1 : 0, cell % 4 == 3 ? 1 : 0);
            due("WHITE of cell " + cell, x.ofCell(cell, 1), cell % 4 == 3 ? 7 : 0);
        }
        x.sheet(0, 8, 17);
        due("as many WHITES as CELLS", x.whites(0), 16);
        due("WHITE of the last", x.ofCell(15, 1), 0);
        sentence("Each has a WHEN (the MINUTE in which it was rolled last, or none, at first) and a WHITE (0 at first).");
        Recorded y = made(1, 2, 20);
        due("none at first", y.ofCell(0, 0), -1);
        due("WHITE at first", y.ofCell(0, 1), 0);
        due("none has a WHEN", y.count(3), 0);
        y.roll(0, 0, 0);
        due("rolled", y.ofCell(0, 0), 1);
        due("the other one", y.ofCell(1, 0), -1);
        due("one has a WHEN", y.count(3), 1);
        y.minutes(3);
        y.roll(0, 0, 1);
        due("rolled last", y.ofCell(0, 0), 5);
        due("one has a WHEN", y.count(3), 1);
        sentence("no CELL is rolled (MINUTE, THE CAN stay)");
        y.ceiling(1, 2);
        due("no CELL is rolled", y.count(3), 0);
        due("WHEN", y.ofCell(0, 0), -1);
        due("MINUTE stays", y.count(2), 5);
        due("LEFT stays", y.count(4), 18);
    }

    private static void minuteBounds() {
        sentence("MINUTE (0 to 9999; 0 at first)");
        Recorded x = rich();
        due("at first", new Recorded().count(2), 0);
        waitUntil(x, 9998);
        due("to the last", x.again().minutes(1), 9999);
        refuse("behind the last", x, STATE, o -> o.minutes(2));
        refuse("behind the last", x, STATE, o -> o.minutes(500));
        x.minutes(1);
        refuse("behind the last", x, STATE, o -> o.minutes(1));
        refuse("BEYOND ahead of STATE", x, BEYOND, o -> o.minutes(0));
        refuse("BEYOND ahead of STATE", x, BEYOND, o -> o.minutes(501));
        Recorded y = rich();
        waitUntil(y, 9499);
        due("the most to the last", y.again().minutes(500), 9999);
        y.minutes(1);
        refuse("the most behind the last", y, STATE, o -> o.minutes(500));
        due("to the last", y.again().minutes(499), 9999);
        sentence("n (1 to 500) MINUTES go by: MINUTE.");
        bound("minutes", rich(), BEYOND, 1, 500, Recorded::minutes);
        due("the least", new Recorded().minutes(1), 1);
        due("the most", new Recorded().minutes(500), 500);
    }

    private static void settings() {
        sentence("HEAT (0 to 9; 3 at first).");
        due("at first", new Recorded().set(0, 5), 3);
        bound("HEAT", rich(), BEYOND, 0, 9, (o, v) -> o.set(0, v));
        sentence("how many CELLS it does still (LEFT, 0 to 99; 20 at first)");
        due("at first", new Recorded().set(1, 5), 20);
        bound("LEFT", rich(), BEYOND, 0, 99, (o, v) -> o.set(1, v));
        sentence("its WHITE (0 at first; 99 at most)");
        due("at first", new Recorded().set(2, 5), 0);
        bound("WHITE", rich(), BEYOND, 0, 99, (o, v) -> o.set(2, v));
        sentence("how many a new one does (SIZE, 1 to 99; 20 at first)");
        due("at first", new Recorded().set(3, 5), 20);
        bound("SIZE", rich(), BEYOND, 1, 99, (o, v) -> o.set(3, v));
        sentence("HEAT (what 0), LEFT (1), WHITE of THE CAN (2), SIZE (3) becomes v: what it was.");
        bound("what", rich(), BEYOND, 0, 3, (o, v) -> o.set(v, 1));
        int[] counted = {7, 4, 5, 6};
        int[] least = {0, 0, 0, 1};
        int[] most = {9, 99, 99, 99};
        for (int what = 0; what <= 3; what++) {
            Recorded x = rich();
            for (int v : new int[] {least[what], most[what], least[what] + 1, most[what] - 1, least[what]}) {
                int was = x.count(counted[what]);
                due("what it was", x.set(what, v), was);
                for (int other = 0; other <= 3; other++) {
                    int due = other == what ? v : rich().count(counted[other]);
                    due("what " + what + ", count of " + other, x.count(counted[other]), due);
                }
            }
        }
    }

    private static void heatIsFelt() {
        sentence("without a TEXT 10-h.");
        for (int heat = 0; heat <= 9; heat++) {
            Recorded x = made(1, 2, 20);
            x.set(0, heat);
            due("DRIES", x.ofCell(0, 2), 10 - heat);
            x.roll(0, 0, 0);
            if (heat < 9) {
                x.minutes(9 - heat);
            }
            x.roll(0, 1, 0);
            due("not dry yet", x.ofCell(0, 3), 0);
            Recorded y = made(1, 2, 20);
            y.set(0, heat);
            y.roll(0, 0, 0);
            y.minutes(10 - heat);
            y.roll(0, 1, 0);
            due("dry", y.ofCell(0, 3), 1);
        }
    }

    /** One CELL by a hand, from a can: what is LEFT then, and its WHITE, that is the CELL's, too. */
    private static void can(int km, int left, int size, int white, int leftThen, int whiteThen) {
        Recorded x = made(1, 1, km);
        x.set(1, left);
        x.set(2, white);
        x.set(3, size);
        due("cans, LEFT " + left + ", SIZE " + size, x.cans(0), white == whiteThen ? 0 : 1);
        x.roll(0, 0, 0);
        due("LEFT behind " + left + " by " + km + ", SIZE " + size, x.count(4), leftThen);
        due("WHITE behind " + left + " by " + km + ", SIZE " + size, x.count(5), whiteThen);
        due("WHITE of the CELL", x.ofCell(0, 1), whiteThen);
        due("SIZE stays", x.count(6), size);
    }

    private static void newCans() {
        sentence("if LEFT is less than USES: a new CAN: LEFT is SIZE");
        can(0, 99, 20, 4, 98, 4);
        can(0, 2, 20, 4, 1, 4);
        can(0, 1, 20, 4, 0, 4);
        can(0, 0, 20, 4, 19, 5);
        can(30, 3, 20, 4, 1, 4);
        can(30, 2, 20, 4, 0, 4);
        can(30, 1, 20, 4, 18, 5);
        can(30, 0, 20, 4, 18, 5);
        can(60, 2, 20, 4, 0, 4);
        can(60, 1, 20, 4, 18, 5);
        can(69, 3, 20, 4, 0, 4);
        can(69, 2, 20, 4, 17, 5);
        can(69, 0, 99, 4, 96, 5);
        sentence("LEFT is less by USES (0 at least)");
        can(0, 0, 1, 4, 0, 5);
        can(0, 0, 2, 4, 1, 5);
        can(30, 1, 1, 4, 0, 5);
        can(30, 1, 2, 4, 0, 5);
        can(30, 1, 3, 4, 1, 5);
        can(61, 2, 1, 4, 0, 5);
        can(61, 2, 2, 4, 0, 5);
        can(61, 2, 3, 4, 0, 5);
        can(61, 2, 4, 4, 1, 5);
        sentence("WHITE 1 more (back to 0 behind 99)");
        can(0, 0, 20, 0, 19, 1);
        can(0, 0, 20, 97, 19, 98);
        can(0, 0, 20, 98, 19, 99);
        can(0, 0, 20, 99, 19, 0);
        Recorded x = made(6, 1, 0);
        x.set(1, 0);
        x.set(2, 97);
        x.set(3, 1);
        x.roll(0, 0, 0);
        int[] whites = {98, 99, 0, 1, 2, 3};
        for (int row = 0; row < 6; row++) {
            due("a can for each CELL", x.ofCell(row, 1), whites[row]);
        }
    }

    private static void sixHands() {
        sentence("HANDS 0, 1, .. (at most 6)");
        Recorded x = new Recorded();
        refuse("none yet", x, BEYOND, o -> o.ofHand(0, 0));
        for (int hand = 0; hand < 6; hand++) {
            due("its number", x.hand(10 * hand + hand), hand);
            due("how many", x.count(1), hand + 1);
            int most = hand;
            bound("a HAND", x, BEYOND, 0, most, (o, v) -> o.ofHand(v, 0));
        }
        refuse("the seventh", x, FULL, o -> o.hand(0));
        refuse("the seventh", x, FULL, o -> o.hand(69));
        refuse("BEYOND ahead of FULL", x, BEYOND, o -> o.hand(70));
        refuse("BEYOND ahead of FULL", x, BEYOND, o -> o.hand(-1));
        for (int hand = 0; hand < 6; hand++) {
            due("each stays as it is", x.ofHand(hand, 0), hand);
            due("each stays as it is", x.ofHand(hand, 1), hand);
        }
        due("one may still become another", x.become(5, 69), 5);
    }

    private static void kindsAndNumbers() {
        sentence("A HAND (km: 10 times the KIND, and m): its number.");
        bound("km of hand()", rich(), BEYOND, 0, 69, Recorded::hand);
        sentence("A HAND becomes one of a KIND, with m (km): the KIND that it was.");
        bound("km of become()", rich(), BEYOND, 0, 69, (o, v) -> o.become(2, v));
        sentence("PACE (MINUTES for the k-th CELL of a strip, k from 0)");
        int[] loads = {2, 2, 3, 9, 2, 2, 4};
        int was = 3;
        for (int km = 0; km < 70; km++) {
            int kind = km / 10;
            int m = km % 10;
            int[] paceAtFirst = {2, 3, 1, 1, 3 + BY_FOUR[m], 1, 1};
            int[] paceThen = {2, 3, 1, 0, 3 + BY_FOUR[m], 2, 0};
            int[] uses = {1, 1, 1, 2, 1, 1, 2 + MODULO_TWO[m]};
            Recorded x = made(1, 1, 0, km, 35);
            due("what it was", x.become(2, km), was);
            for (int hand = 1; hand <= 2; hand++) {
                due(km + " KIND", x.ofHand(hand, 0), kind);
                due(km + " m", x.ofHand(hand, 1), m);
                due(km + " PACE for CELL 0", x.ofHand(hand, 2), paceAtFirst[kind]);
                due(km + " PACE for CELL 3", x.ofHand(hand, 3), paceThen[kind]);
                due(km + " LOAD", x.ofHand(hand, 4), loads[kind] + (kind == 2 || kind == 5 ? MODULO_THREE[m] : 0));
                due(km + " USES", x.ofHand(hand, 5), uses[kind]);
                due(km + " as a HAND", x.as(hand, 0), m);
            }
            due("the other one stays", x.ofHand(0, 0), 0);
        }
        sentence("Of a HAND: 0 KIND, 1 m, 2 PACE for CELL 0, 3 for CELL 3, 4 LOAD, 5 USES.");
        bound("what", rich(), BEYOND, 0, 5, (o, v) -> o.ofHand(3, v));
    }

    private static void asKinds() {
        sentence("A HAND as one of a KIND: m.");
        int[][] ways = {{0}, {1, 0}, {2, 0}, {3, 0}, {4, 1, 0}, {5, 2, 0}, {6, 3, 0}};
        for (int kind = 0; kind <= 6; kind++) {
            Recorded x = rich();
            x.become(1, 10 * kind + 9);
            for (int other = 0; other <= 6; other++) {
                int as = other;
                boolean is = false;
                for (int above : ways[kind]) {
                    is = is || above == other;
                }
                if (is) {
                    due(kind + " as " + other, x.again().as(1, as), 9);
                } else {
                    refuse(kind + " as " + other, x, KIND, o -> o.as(1, as));
                }
            }
            for (int beyond : new int[] {-1, -2, 7, 8, MIN, MAX}) {
                refuse("no KIND", x, BEYOND, o -> o.as(1, beyond));
            }
            refuse("BEYOND ahead of KIND", x, BEYOND, o -> o.as(5, 6));
        }
    }

    private static void eachHandRolls() {
        sentence("if the rest of k by LOAD is 0, and k isn't 0, MINUTE is 1 more");
        for (int km = 0; km < 70; km++) {
            int[] whens = whens(km / 10, km % 10);
            for (int rows = 1; rows <= 6; rows++) {
                Recorded x = made(rows, 2, km);
                due(km + " down", x.roll(0, 0, 0), whens[rows - 1]);
                due(km + " up", x.roll(0, 1, 1), 2 * whens[rows - 1]);
                for (int row = 0; row < rows; row++) {
                    due(km + " down, row " + row, x.ofCell(2 * row, 0), whens[row]);
                    int up = whens[rows - 1] + whens[rows - 1 - row];
                    due(km + " up, row " + row, x.ofCell(2 * row + 1, 0), up);
                }
            }
        }
        sentence("down (0: from ROW 0 on) or up (1)");
        bound("a way", rich(), BEYOND, 0, 1, (o, v) -> o.roll(0, 0, v));
    }

    private static void rolledUntil9900() {
        sentence("A STRIP is ROLLED only if MINUTE is 9900 at most (then wholly).");
        for (int km : new int[] {0, 49, 39}) {
            Recorded x = rich();
            x.ceiling(6, 4);
            x.become(0, km);
            waitUntil(x, 9900);
            due("at 9900, wholly", x.again().roll(0, 3, 0), 9900 + whens(km / 10, km % 10)[5]);
            x.minutes(1);
            refuse("at 9901", x, STATE, o -> o.roll(0, 3, 0));
            refuse("at 9901", x, STATE, o -> o.roll(0, 0, 1));
            refuse("BEYOND of the hand ahead of STATE", x, BEYOND, o -> o.roll(5, 3, 0));
            refuse("BEYOND of the strip ahead of STATE", x, BEYOND, o -> o.roll(0, 4, 0));
            refuse("BEYOND of the way ahead of STATE", x, BEYOND, o -> o.roll(0, 3, 2));
            waitUntil(x, 9999);
            refuse("at 9999", x, STATE, o -> o.roll(0, 3, 0));
        }
        Recorded y = made(6, 1, 49);
        waitUntil(y, 9900);
        y.roll(0, 0, 1);
        for (int row = 0; row < 6; row++) {
            due("behind 9900, wholly", y.ofCell(row, 0), 9900 + whens(4, 9)[5 - row]);
        }
    }

    private static int draw(int z, int times) {
        long drawn = z;
        for (int i = 0; i < times; i++) {
            drawn = (int) (drawn * 1103515245L + 12345L);
        }
        return (int) drawn;
    }

    private static int seedOfPause(int pause) {
        int z = 0;
        while ((draw(z, 4) >>> 8) % 8 != pause) {
            z++;
        }
        return z;
    }

    private static void dayAt(int minute, int pause, int minuteThen, int rolled) {
        Recorded x = made(1, 1, 0);
        waitUntil(x, minute);
        x.seed(seedOfPause(pause));
        due("SEEN", x.days(1), 0);
        due("MINUTE, a pause of " + pause + " behind " + minute, x.count(2), minuteThen);
        due("rolled, a pause of " + pause + " behind " + minute, x.count(3), rolled);
    }

    private static void lateDays() {
        sentence("so many MINUTES go by (MINUTE is 9999 at most), then that STRIP is ROLLED so (unless MINUTE is above 9900)");
        for (int pause = 0; pause <= 7; pause++) {
            dayAt(0, pause, pause + 2, 1);
            dayAt(9899 - pause, pause, 9901, 1);
            dayAt(9900 - pause, pause, 9902, 1);
            dayAt(9901 - pause, pause, 9901, 0);
            dayAt(9998 - pause, pause, 9998, 0);
            dayAt(9999 - pause, pause, 9999, 0);
            dayAt(9999, pause, 9999, 0);
        }
        dayAt(9993, 7, 9999, 0);
        dayAt(9998, 2, 9999, 0);
    }

    private static void oneDay(int seed, int hands, int strips) {
        Recorded x = new Recorded();
        x.ceiling(2, strips);
        for (int hand = 0; hand < hands; hand++) {
            x.hand(11 * hand);
        }
        Recorded byHand = x.again();
        x.seed(seed);
        int seen = x.days(1);
        int pause = (draw(seed, 4) >>> 8) % 8;
        if (pause > 0) {
            byHand.minutes(pause);
        }
        byHand.roll((draw(seed, 1) >>> 8) % hands, (draw(seed, 2) >>> 8) % strips, (draw(seed, 3) >>> 8) % 2);
        byHand.seed(draw(seed, 4));
        due("SEEN", seen, byHand.seams(1));
        due("as rolled by hand (1)", Views.of(Views.PLAIN, x).equals(Views.of(Views.PLAIN, byHand)) ? 1 : 0, 1);
    }

    private static void daysByDraws() {
        sentence("z is told (1 at first); each makes it z * 1103515245 + 12345 (an int), and gives z >>> 8.");
        Recorded x = made(1, 1, 0);
        due("at first", x.count(11), 1);
        x.days(1);
        due("behind four draws", x.count(11), draw(1, 4));
        x.days(30);
        due("behind 31 days", x.count(11), draw(1, 124));
        for (int seed : new int[] {0, 1, -1, 255, 256, -256, -257, MIN, MAX, MIN + 1, MAX - 1}) {
            oneDay(seed, 1, 1);
            oneDay(seed, 6, 6);
        }
        for (int i = 0; i < 300; i++) {
            oneDay(i * 987654321, 1 + i % 6, 1 + i / 6 % 6);
        }
        sentence("n (1 to 30) DAYS by draws: SEEN then.");
        bound("days", rich(), BEYOND, 1, 30, Recorded::days);
        sentence("STATE: there are no HANDS.");
        Recorded none = new Recorded();
        refuse("no hands", none, STATE, o -> o.days(1));
        refuse("no hands", none, STATE, o -> o.days(30));
        refuse("BEYOND ahead of STATE", none, BEYOND, o -> o.days(0));
        refuse("BEYOND ahead of STATE", none, BEYOND, o -> o.days(31));
        none.hand(0);
        take("one hand", none, o -> o.days(1));
    }

    /** Whether there is a SEAM between two strips, the second rolled so many MINUTES behind the first. */
    private static int seam(String dries, int first, int behind) {
        Recorded x = made(1, 2, 20);
        textOf(x, 0, dries);
        x.roll(0, first, 0);
        if (behind > 1) {
            x.minutes(behind - 1);
        }
        x.roll(0, 1 - first, 0);
        due("seams() says so, too", x.seams(0), x.ofCell(0, 3));
        due("none on the right of the last", x.ofCell(1, 3), 0);
        return x.ofCell(0, 3);
    }

    private static void drySeams() {
        sentence("or the later WHEN is more than DRIES of the earlier one behind that.");
        for (int first = 0; first <= 1; first++) {
            for (int dries : new int[] {1, 2, 7, 98, 99}) {
                due("just not dry", seam("" + dries, first, dries), 0);
                due("just dry", seam("" + dries, first, dries + 1), 1);
            }
            due("dry at once", seam("0", first, 1), 1);
            due("long dry", seam("99", first, 400), 1);
        }
        due("the left one is earlier, not dry", seam("s*50+5", 0, 5), 0);
        due("the left one is earlier, dry", seam("s*50+5", 0, 6), 1);
        due("the right one is earlier, not dry", seam("s*50+5", 1, 55), 0);
        due("the right one is earlier, dry", seam("s*50+5", 1, 56), 1);
        Recorded x = made(2, 2, 30);
        textOf(x, 0, "r*20+4");
        x.roll(0, 0, 0);
        x.minutes(4);
        x.roll(0, 1, 0);
        due("dry in ROW 0", x.ofCell(0, 3), 1);
        due("not in ROW 1", x.ofCell(2, 3), 0);
    }

    private static int seamOfWhites(int left, int right, int... rolled) {
        Recorded x = made(1, 2, 20);
        sheetOf(x, 0, 8, left, right);
        for (int strip : rolled) {
            x.roll(0, strip, 0);
        }
        x.whites(0);
        due("SEEN", x.seams(1), x.seams(0) == 0 ? 0 : Math.min(99, 1 + Math.abs(left - right)));
        return x.seams(0);
    }

    private static void whiteSeams() {
        sentence("that both have a WHEN, if they are of unlike WHITES");
        due("alike", seamOfWhites(5, 5, 0, 1), 0);
        due("1 more", seamOfWhites(5, 6, 0, 1), 1);
        due("1 less", seamOfWhites(6, 5, 1, 0), 1);
        due("furthest", seamOfWhites(0, 99, 0, 1), 1);
        due("furthest", seamOfWhites(99, 0, 0, 1), 1);
        due("nearly furthest", seamOfWhites(98, 0, 0, 1), 1);
        due("neither has a WHEN", seamOfWhites(0, 9), 0);
        due("the left one alone", seamOfWhites(0, 9, 0), 0);
        due("the right one alone", seamOfWhites(0, 9, 1), 0);
        sentence("A SEAM lies between two CELLS side by side in a ROW");
        Recorded one = made(6, 1, 20);
        one.set(3, 1);
        one.set(1, 0);
        one.roll(0, 0, 0);
        due("not between ROWS", one.seams(0), 0);
        Recorded two = made(2, 2, 20);
        sheetOf(two, 0, 8, 1, 1, 2, 2);
        two.roll(0, 0, 0);
        two.roll(0, 1, 0);
        two.whites(0);
        due("not around the end of a ROW", two.seams(0), 0);
        due("not around the end of a ROW", two.ofCell(1, 3), 0);
        two.put(0, 3, 3);
        two.whites(0);
        due("one", two.seams(0), 1);
        due("in ROW 1", two.ofCell(2, 3), 1);
        Recorded gap = made(1, 3, 20);
        gap.roll(0, 0, 0);
        gap.minutes(50);
        gap.roll(0, 2, 0);
        due("none over a gap", gap.seams(0), 0);
    }

    private static void mostSeams() {
        sentence("SEEN: of all SEAMS what the other TEXT gives, together.");
        Recorded x = made(6, 6, 30);
        textOf(x, 0, "0");
        due("none", x.seams(0) + x.seams(1), 0);
        for (int strip = 0; strip < 6; strip++) {
            due("seams", x.seams(0), Math.max(0, strip - 1) * 6);
            x.set(1, 99);
            x.roll(0, strip, 0);
        }
        due("all", x.seams(0), 30);
        due("each 1", x.seams(1), 30);
        textOf(x, 1, "99");
        due("the most", x.seams(1), 2970);
        textOf(x, 1, "100");
        due("held", x.seams(1), 2970);
        textOf(x, 1, "0-1");
        due("held", x.seams(1), 0);
        due("all", x.seams(0), 30);
        textOf(x, 1, "(r=5)*(s=4)*7");
        due("the last one", x.seams(1), 7);
        sentence("How many SEAMS (what 0), SEEN (1).");
        bound("what", rich(), BEYOND, 0, 1, Recorded::seams);
        sentence("w by how much WHITES differ (without sign)");
        Recorded y = made(1, 2, 20);
        y.roll(0, 0, 0);
        y.roll(0, 1, 0);
        y.sheet(0, 8, 2);
        for (int w = 0; w <= 99; w++) {
            y.put(0, w % 2, w);
            y.put(0, 1 - w % 2, 0);
            y.whites(0);
            due("SEEN by " + w, y.seams(1), w == 0 ? 0 : Math.min(99, w + 1));
        }
        Recorded far = made(1, 3, 30);
        textOf(far, 0, "0");
        textOf(far, 1, "(w=99)*(7+s)+(w=0)*(20+s*3)");
        for (int strip = 0; strip < 3; strip++) {
            far.roll(0, strip, 0);
        }
        sheetOf(far, 0, 8, 0, 99, 99);
        far.whites(0);
        due("99, then 0", far.seams(1), 30);
        sheetOf(far, 0, 8, 0, 0, 99);
        far.whites(0);
        due("0, then 99", far.seams(1), 28);
    }

    private static void cells() {
        sentence("Of a CELL: 0 WHEN (-1: none), 1 WHITE, 2 DRIES, 3 whether there is a SEAM on its right side.");
        bound("what", rich(), BEYOND, 0, 3, (o, v) -> o.ofCell(11, v));
        bound("a CELL", rich(), BEYOND, 0, 11, (o, v) -> o.ofCell(v, 3));
        Recorded x = made(6, 6, 0);
        textOf(x, 0, "r*10+s+h");
        for (int heat = 0; heat <= 9; heat += 9) {
            x.set(0, heat);
            for (int cell = 0; cell < 36; cell++) {
                due("DRIES of " + cell, x.ofCell(cell, 2), cell / 6 * 10 + cell % 6 + heat);
            }
        }
    }

    public static void main(String[] args) {
        rowsAndStrips();
        cellsByRows();
        atFirst();
        minuteBounds();
        settings();
        heatIsFelt();
        newCans();
        sixHands();
        kindsAndNumbers();
        asKinds();
        eachHandRolls();
        rolledUntil9900();
        lateDays();
        daysByDraws();
        drySeams();
        whiteSeams();
        mostSeams();
        cells();
        end();
    }
}
