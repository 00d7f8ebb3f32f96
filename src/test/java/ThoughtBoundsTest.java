import java.util.Arrays;

/** Term 3, what is only thought, days by draws, VOICES, and its promises: each bound just inside, and just outside. */
public final class ThoughtBoundsTest extends Checks {
    private static final int ALMOST = Recorded.MOST_CALLS - 20;

    /** The next row of the same numbers, in the order of rows. */
    private static boolean step(int[] row) {
        int i = row.length - 2;
        while (i >= 0 && row[i] > row[i + 1]) {
            i--;
        }
        if (i < 0) {
            return false;
        }
        int j = row.length - 1;
        while (row[j] < row[i]) {
            j--;
        }
        swap(row, i, j);
        for (int a = i + 1, b = row.length - 1; a < b; a++, b--) {
            swap(row, a, b);
        }
        return true;
    }

    private static void swap(int[] row, int i, int j) {
        int v = row[i];
        row[i] = row[j];
        row[j] = v;
    }

    private static int[] inOrder(int strips) {
        int[] row = new int[strips];
        Arrays.setAll(row, i -> i);
        return row;
    }

    /** SEEN behind all strips, really rolled one behind the other, with a pause ahead of each (0: none). */
    private static int really(Recorded x, int hand, int[] row, int... pauses) {
        Recorded o = x.again();
        for (int i = 0; i < row.length; i++) {
            for (int rest = i < pauses.length ? pauses[i] : 0; rest > 0; rest -= 500) {
                o.minutes(Math.min(500, rest));
            }
            o.roll(hand, row[i], 0);
        }
        return o.seams(1);
    }

    private static int[] oneCall(int strips, int s, int n) {
        int[] pauses = new int[strips];
        pauses[s] = n;
        return pauses;
    }

    private static Recorded withTexts(int rows, int strips, String dries, String light, int... hands) {
        Recorded x = made(rows, strips, hands);
        textOf(x, 0, dries);
        textOf(x, 1, light);
        return x;
    }

    private static void ordersByHand(Recorded x, int hand, int strips) {
        int[] row = inOrder(strips);
        int[] best = row.clone();
        int least = MAX;
        Recorded o = x.again();
        o.sheet(3, 8, strips);
        do {
            if (o.calls() > ALMOST) {
                o = x.again();
                o.sheet(3, 8, strips);
            }
            for (int i = 0; i < strips; i++) {
                o.put(3, i, row[i]);
            }
            int seen = o.done(hand, 3);
            if (seen < least) {
                least = seen;
                best = row.clone();
            }
        } while (step(row));
        due("SEEN of BEST ORDER", x.again().order(hand, -1), least);
        due("as really rolled", really(x, hand, best), least);
        for (int place = 0; place < strips; place++) {
            due("BEST ORDER at " + place, x.again().order(hand, place), best[place]);
        }
    }

    private static void bestOrders() {
        sentence("BEST ORDER: of all rows of all STRIPS that behind which SEEN is least; of several the first as a row.");
        String[] dries = {"10-h", "(s=2)*99", "(s>0)*2", "r+s", "9-s*2", "0", "99", "(s%2)*9+1"};
        String[] lights = {"1+w", "r+s*5+1", "9-s", "w*2+1", "(5-s)*(5-s)+r", "1", "0", "s+1"};
        for (int strips = 1; strips <= 6; strips++) {
            for (int i = 0; i < dries.length; i++) {
                int rows = 1 + i % 3;
                Recorded x = withTexts(rows, strips, dries[i], lights[i], 0, 33, 58);
                x.set(1, 3 * i);
                x.set(3, 7);
                ordersByHand(x, i % 3, strips);
            }
        }
        Recorded last = withTexts(1, 6, "(s>0)*2", "1+w", 0);
        for (int place = 0; place < 6; place++) {
            due("the last of all rows", last.order(0, place), 5 - place);
        }
        Recorded first = withTexts(1, 6, "99", "1+w", 0);
        for (int place = 0; place < 6; place++) {
            due("the first of all alike", first.order(0, place), place);
        }
        sentence("BEST ORDER: what -1 SEEN, else the STRIP at that place.");
        for (int strips = 1; strips <= 6; strips++) {
            Recorded x = rich();
            x.ceiling(2, strips);
            bound("what", x, BEYOND, -1, strips - 1, (o, v) -> o.order(4, v));
        }
        Recorded one = withTexts(6, 1, "0", "99", 0);
        due("one STRIP alone: SEEN", one.order(0, -1), 0);
        due("one STRIP alone", one.order(0, 0), 0);
    }

    private static void orderOfASheet() {
        sentence("SEEN, if DONE by an ORDER that a SHEET tells (all STRIPS, each once).");
        Recorded x = rich();
        int[][] told = {{}, {0}, {0, 1, 2}, {0, 1, 2, 3, 0}, {0, 1, 2, 4}, {-1, 1, 2, 3}, {0, 1, 2, 2}, {1, 1, 2, 3},
            {0, 0, 0, 0}, {1, 2, 3, 4}, {0, 1, 2, MAX}, {MIN, 1, 2, 3}, {3, 2, 1, 3}};
        for (int[] row : told) {
            Recorded y = x.again();
            sheetOf(y, 3, 32, row);
            refuse("no such row " + Arrays.toString(row), y, STATE, o -> o.done(1, 3));
        }
        int[] row = inOrder(4);
        do {
            sheetOf(x, 3, 16, row);
            due("DONE", x.done(1, 3), really(x, 1, row));
        } while (x.calls() < ALMOST && step(row));
        for (int strips = 1; strips <= 6; strips++) {
            Recorded y = rich();
            y.ceiling(1, strips);
            int[] all = inOrder(strips);
            sheetOf(y, 3, 8, all);
            due("all STRIPS", y.done(0, 3), really(y, 0, all));
            sheetOf(y, 3, 8, inOrder(strips + 1));
            refuse("one STRIP too many", y, STATE, o -> o.done(0, 3));
            sheetOf(y, 3, 8, inOrder(strips - 1));
            refuse("one STRIP lacks", y, STATE, o -> o.done(0, 3));
        }
    }

    private static void heats() {
        sentence("CLEAN: the least HEAT (0 to 9) with which BEST ORDER leaves SEEN 0; WARMEST: the greatest.");
        String[] dries = {"(h=0)*99", "(h=9)*99", "(h=1)*99", "(h=8)*99", "(h>3)*99", "(h<6)*99", "(h=2|h=7)*99", "99", "10-h",
            "h"};
        int[][] due = {{0, 0}, {9, 9}, {1, 1}, {8, 8}, {4, 9}, {0, 5}, {2, 7}, {0, 9}, {0, 8}, {2, 9}};
        for (int i = 0; i < dries.length; i++) {
            Recorded x = withTexts(1, 3, dries[i], "1+w", 0);
            for (int heat = 0; heat <= 9; heat++) {
                x.set(0, heat);
                due(dries[i] + " CLEAN", x.clean(0, 0), due[i][0]);
                due(dries[i] + " WARMEST", x.clean(0, 1), due[i][1]);
                due("HEAT stays", x.count(7), heat);
            }
        }
        Recorded none = rich();
        textOf(none, 0, "0");
        none.text(0);
        textOf(none, 0, "0");
        refuse("with none", none, NONE, o -> o.clean(0, 0));
        refuse("with none", none, NONE, o -> o.clean(0, 1));
        refuse("BEYOND ahead of NONE", none, BEYOND, o -> o.clean(0, 2));
        refuse("BEYOND ahead of NONE", none, BEYOND, o -> o.clean(5, 0));
        Recorded one = withTexts(6, 1, "0", "99", 0);
        due("one STRIP alone is CLEAN", one.clean(0, 0), 0);
        due("one STRIP alone is CLEAN", one.clean(0, 1), 9);
        Recorded unseen = withTexts(6, 6, "0", "0", 49);
        due("seams that aren't seen", unseen.clean(0, 0), 0);
        due("seams that aren't seen", unseen.clean(0, 1), 9);
        Recorded another = withTexts(1, 3, "99", "w", 0);
        another.set(1, 2);
        refuse("another white", another, NONE, o -> o.clean(0, 0));
        another.set(1, 3);
        due("the same white", another.clean(0, 0), 0);
        bound("what", rich(), BEYOND, 0, 1, (o, v) -> o.clean(3, v));
    }

    private static void calledAway() {
        sentence("ahead of STRIP s (1 on) one is away for n MINUTES (0 to 500): SEEN then.");
        int[] times = {0, 1, 2, 5, 6, 95, 96, 97, 98, 99, 499, 500};
        for (int strips = 2; strips <= 6; strips++) {
            for (String dries : new String[] {"10-h", "99", "s*30", "0"}) {
                Recorded x = withTexts(2, strips, dries, "r+s*5+w+1", 0, 27, 39);
                x.set(1, 13);
                int hand = strips % 3;
                for (int s = 1; s < strips; s++) {
                    for (int n : times) {
                        int due = really(x, hand, inOrder(strips), oneCall(strips, s, n));
                        due("away " + n + " ahead of " + s, x.again().called(hand, s, n), due);
                    }
                }
            }
            Recorded y = rich();
            y.ceiling(2, strips);
            bound("STRIP s", y, BEYOND, 1, strips - 1, (o, v) -> o.called(2, v, 500));
            bound("STRIP s", y, BEYOND, 1, strips - 1, (o, v) -> o.howLong(2, v));
            bound("n", y, BEYOND, 0, 500, (o, v) -> o.called(2, 1, v));
        }
        Recorded x = withTexts(1, 2, "99", "1+w", 20);
        due("99 behind", x.called(0, 1, 98), 0);
        due("100 behind", x.called(0, 1, 99), 1);
        sentence("CALLED AWAY ahead of STRIP s. BEYOND: also s 0.");
        Recorded one = rich();
        one.ceiling(3, 1);
        for (int s = -1; s <= 2; s++) {
            int strip = s;
            refuse("one STRIP alone", one, BEYOND, o -> o.called(0, strip, 5));
            refuse("one STRIP alone", one, BEYOND, o -> o.howLong(0, strip));
        }
    }

    private static void worstStrips() {
        sentence("WORST: the s with which that is most; of several the least.");
        String[] lights = {"1", "s", "9-s", "(s=2)*9+1", "(s>0)*3+1", "0", "(s=1|s=3)*5"};
        for (int strips = 2; strips <= 6; strips++) {
            for (String light : lights) {
                Recorded x = withTexts(1, strips, "5", light, 0);
                for (int n : new int[] {0, 3, 4, 500}) {
                    int worst = 0;
                    int most = -1;
                    for (int s = 1; s < strips; s++) {
                        int seen = really(x, 0, inOrder(strips), oneCall(strips, s, n));
                        if (seen > most) {
                            most = seen;
                            worst = s;
                        }
                    }
                    due("WORST of " + strips + ", away " + n + ", LIGHT " + light, x.worst(0, n, 0), worst);
                    due("SEEN", x.worst(0, n, 1), most);
                }
            }
        }
        sentence("WORST for n: what 0 s, 1 SEEN. BEYOND. NONE: there is one STRIP alone.");
        bound("n", rich(), BEYOND, 0, 500, (o, v) -> o.worst(1, v, 0));
        bound("what", rich(), BEYOND, 0, 1, (o, v) -> o.worst(1, 9, v));
        Recorded one = rich();
        one.ceiling(6, 1);
        refuse("one STRIP alone", one, NONE, o -> o.worst(0, 0, 0));
        refuse("one STRIP alone", one, NONE, o -> o.worst(4, 500, 1));
        refuse("BEYOND ahead of NONE", one, BEYOND, o -> o.worst(5, 9, 0));
        refuse("BEYOND ahead of NONE", one, BEYOND, o -> o.worst(0, 501, 0));
        refuse("BEYOND ahead of NONE", one, BEYOND, o -> o.worst(0, -1, 0));
        refuse("BEYOND ahead of NONE", one, BEYOND, o -> o.worst(0, 9, 2));
        one.ceiling(6, 2);
        due("two STRIPS", one.worst(0, 0, 0), 1);
    }

    private static void howLong() {
        sentence("HOW LONG: the greatest n (0 to 500) with which SEEN is no more than without, ahead of s.");
        // One CELL takes one MINUTE: so a pause may be one less than DRIES.
        for (int dries = 1; dries <= 99; dries++) {
            Recorded x = withTexts(1, 3, "" + dries, "1+w", 20);
            due("HOW LONG by " + dries, x.howLong(0, 1), dries - 1);
            due("HOW LONG by " + dries, x.howLong(0, 2), dries - 1);
        }
        Recorded x = withTexts(1, 4, "s*20+1", "1+w", 20);
        due("none at all", x.howLong(0, 1), 0);
        due("by the strip behind which", x.howLong(0, 2), 20);
        due("by the strip behind which", x.howLong(0, 3), 40);
        textOf(x, 0, "0");
        due("dry anyhow", x.howLong(0, 1), 500);
        textOf(x, 0, "5");
        textOf(x, 1, "0");
        due("never seen", x.howLong(0, 3), 500);
        textOf(x, 1, "1");
        x.set(1, 1);
        due("another white anyhow", x.howLong(0, 1), 500);
        due("the same white", x.howLong(0, 2), 4);
        Recorded rows = withTexts(3, 2, "50-r*20", "r=1", 30);
        due("by the ROW that is seen", rows.howLong(0, 1), 28);
        textOf(rows, 1, "r<2");
        due("by the first ROW that is dry", rows.howLong(0, 1), 28);
        textOf(rows, 1, "r=0");
        due("by ROW 0", rows.howLong(0, 1), 48);
    }

    private static void cans() {
        sentence("CANS: how many new CANS are begun, if STRIPS are ROLLED in order 0, 1, .., down, by a HAND.");
        int[][] due = {{0, 36, 20, 0}, {0, 35, 20, 1}, {0, 16, 20, 1}, {0, 15, 20, 2}, {0, 0, 36, 1}, {0, 0, 35, 2},
            {0, 0, 1, 36}, {0, 1, 1, 35}, {30, 72, 20, 0}, {30, 71, 20, 1}, {30, 0, 1, 36}, {30, 0, 3, 36}, {30, 0, 4, 18},
            {61, 99, 9, 1}, {61, 99, 8, 2}, {60, 72, 5, 0}, {61, 0, 5, 36}, {61, 0, 6, 18}, {61, 0, 2, 36}};
        for (int[] d : due) {
            Recorded x = made(6, 6, d[0]);
            x.set(1, d[1]);
            x.set(2, 99);
            x.set(3, d[2]);
            due("CANS by " + d[0] + ", LEFT " + d[1] + ", SIZE " + d[2], x.cans(0), d[3]);
            due("again", x.cans(0), d[3]);
        }
        Recorded one = made(1, 1, 0);
        due("none", one.cans(0), 0);
        one.set(1, 0);
        due("one", one.cans(0), 1);
        one.roll(0, 0, 0);
        due("those begun don't count", one.cans(0), 0);
    }

    private static void whoseBy(Recorded x, int kind, int... whens) {
        sheetOf(x, 3, 32, whens);
        if (kind >= 0) {
            due("WHOSE", x.whose(0, 1, 3), kind);
        } else {
            refuse("by none", x, NONE, o -> o.whose(0, 1, 3));
        }
    }

    private static void whose() {
        sentence("a SHEET tells WHEN of the CELLS of a STRIP, ROW by ROW (as many numbers just), if it is ROLLED now, down");
        Recorded six = made(6, 2, 0);
        int[][] whens = {{2, 4, 7, 9, 12, 14}, {3, 6, 10, 13, 17, 20}, {1, 2, 3, 4, 5, 7}, {1, 1, 2, 2, 3, 3},
            {5, 10, 16, 21, 27, 32}, {1, 2, 3, 5, 8, 10}, {1, 1, 2, 2, 4, 4}};
        for (int kind = 0; kind <= 6; kind++) {
            // The WHENS above are those with m 8.
            six.become(0, 8);
            whoseBy(six, kind, whens[kind]);
            for (int row = 0; row < 6; row++) {
                for (int by = -1; by <= 1; by += 2) {
                    int[] other = whens[kind].clone();
                    other[row] += by;
                    Recorded y = six.again();
                    sheetOf(y, 3, 32, other);
                    int due = NONE;
                    for (int k = 6; k >= 0; k--) {
                        due = Arrays.equals(other, whens[k]) ? k : due;
                    }
                    due("one MINUTE off", y.whose(0, 1, 3), due);
                }
            }
        }
        sentence("the least KIND as which a HAND, with its m, does so.");
        Recorded x = made(1, 2, 3);
        whoseBy(x, 2, 1);
        whoseBy(x, 0, 2);
        whoseBy(x, 1, 3);
        whoseBy(x, -1, 4);
        x.become(0, 64);
        whoseBy(x, 2, 1);
        whoseBy(x, 1, 3);
        whoseBy(x, 4, 4);
        whoseBy(x, -1, 5);
        x.become(0, 8);
        whoseBy(x, 4, 5);
        whoseBy(x, -1, 4);
        whoseBy(x, -1, 0);
        whoseBy(x, -1, -1);
        waitUntil(x, 9999);
        whoseBy(x, 0, 10001);
        whoseBy(x, -1, 2);
        sentence("NONE: it is missing, hasn't as many numbers; by none.");
        for (int rows = 1; rows <= 6; rows++) {
            Recorded y = rich();
            y.ceiling(rows, 2);
            int minute = y.count(2);
            int[] all = new int[rows + 1];
            for (int row = 0; row <= rows; row++) {
                all[row] = minute + (row < 6 ? whens[0][row] : 16);
            }
            sheetOf(y, 3, 32, Arrays.copyOf(all, rows));
            due("as many numbers", y.whose(2, 1, 3), 0);
            sheetOf(y, 3, 32, all);
            refuse("one too many", y, NONE, o -> o.whose(2, 1, 3));
            sheetOf(y, 3, 32, Arrays.copyOf(all, rows - 1));
            refuse("one lacks", y, NONE, o -> o.whose(2, 1, 3));
        }
        Recorded missing = rich();
        refuse("missing", missing, NONE, o -> o.whose(2, 1, 3));
        refuse("BEYOND of the hand ahead of NONE", missing, BEYOND, o -> o.whose(5, 1, 3));
        refuse("BEYOND of the strip ahead of NONE", missing, BEYOND, o -> o.whose(2, 4, 3));
        bound("a STRIP", missing, BEYOND, 0, 3, (o, v) -> o.whose(0, v, 1));
    }

    private static void oddsOf(Recorded x, int hand, int strips, int n, int v) {
        int above = 0;
        int below = 1 << strips - 1;
        for (int way = 0; way < below; way++) {
            int[] pauses = new int[strips];
            for (int s = 1; s < strips; s++) {
                pauses[s] = (way >> s - 1 & 1) * n;
            }
            above += really(x, hand, inOrder(strips), pauses) <= v ? 1 : 0;
        }
        for (int d = below; d > 1; d--) {
            if (above % d == 0 && below % d == 0) {
                above /= d;
                below /= d;
            }
        }
        due("ODDS, above, of " + strips + ", " + n + ", " + v, x.again().odds(hand, n, v, 0), above);
        due("ODDS, below, of " + strips + ", " + n + ", " + v, x.again().odds(hand, n, v, 1), below);
    }

    private static void odds() {
        sentence("that SEEN is v at most (0 to 9999): a fraction in lowest terms (0 is 0 by 1).");
        for (int strips = 1; strips <= 6; strips++) {
            Recorded x = withTexts(2, strips, "5", "r+s*3+1", 30, 4);
            x.set(1, 40);
            for (int v : new int[] {0, 1, 2, 3, 4, 5, 8, 9, 10, 11, 14, 20, 38, 39, 9999}) {
                oddsOf(x, 0, strips, 4, v);
                oddsOf(x, 0, strips, 500, v);
            }
            oddsOf(x, 1, strips, 0, 0);
            oddsOf(x, 1, strips, 3, 1);
        }
        Recorded never = withTexts(1, 6, "0", "99", 0);
        due("never: 0", never.odds(0, 9, 494, 0), 0);
        due("never: by 1", never.odds(0, 9, 494, 1), 1);
        due("always: 1", never.odds(0, 9, 495, 0), 1);
        due("always: by 1", never.odds(0, 9, 495, 1), 1);
        Recorded of32 = withTexts(1, 6, "2", "1", 0);
        int[][] due = {{1, 32}, {3, 16}, {1, 2}, {13, 16}, {31, 32}, {1, 1}};
        for (int v = 0; v <= 5; v++) {
            due("ODDS, above, of " + v, of32.odds(0, 1, v, 0), due[v][0]);
            due("ODDS, below, of " + v, of32.odds(0, 1, v, 1), due[v][1]);
        }
        due("one STRIP alone", made(1, 1, 0).odds(0, 500, 0, 0), 1);
        due("one STRIP alone", made(1, 1, 0).odds(0, 500, 0, 1), 1);
        sentence("ODDS: part 0 above, 1 below the line.");
        bound("n", rich(), BEYOND, 0, 500, (o, v) -> o.odds(4, v, 9, 0));
        bound("v", rich(), BEYOND, 0, 9999, (o, v) -> o.odds(4, 9, v, 1));
        bound("part", rich(), BEYOND, 0, 1, (o, v) -> o.odds(4, 9, 9, v));
    }

    /** The same ceiling early and late: what is thought is the same. */
    private static void late() {
        sentence("(All this is only thought: THE CEILING as it is, rolled on from now, beyond all bounds of MINUTE.)");
        for (int hand = 0; hand <= 4; hand++) {
            Recorded early = rich();
            Recorded late = rich();
            waitUntil(late, 9999);
            due("SEEN of an order", late.done(hand, 0), early.done(hand, 0));
            for (int what = -1; what <= 3; what++) {
                due("BEST ORDER", late.order(hand, what), early.order(hand, what));
            }
            for (int what = 0; what <= 1; what++) {
                due("CLEAN", late.clean(hand, what), early.clean(hand, what));
                due("WORST", late.worst(hand, 77, what), early.worst(hand, 77, what));
                due("ODDS", late.odds(hand, 77, 30, what), early.odds(hand, 77, 30, what));
            }
            for (int s = 1; s <= 3; s++) {
                due("CALLED AWAY", late.called(hand, s, 500), early.called(hand, s, 500));
                due("HOW LONG", late.howLong(hand, s), early.howLong(hand, s));
            }
            due("CANS", late.cans(hand), early.cans(hand));
            due("MINUTE stays", late.count(2), 9999);
        }
        Recorded x = rich();
        String was = Views.of(Views.PLAIN, x.again());
        x.done(0, 0);
        x.order(1, 2);
        x.clean(2, 1);
        x.called(3, 2, 99);
        x.worst(4, 99, 1);
        x.howLong(0, 3);
        x.cans(1);
        x.whose(2, 2, 1);
        x.odds(3, 99, 9, 1);
        due("nothing of all this is done (1)", Views.of(Views.PLAIN, x).equals(was) ? 1 : 0, 1);
    }

    private static int said(int kind, int act, int n, int m, int x) {
        int loads = kind == 3 || kind == 6 ? 3 * (x + n) : x + n;
        int dries = kind == 1 ? m - x : kind == 4 ? m - x ^ n : x - m;
        int rolls;
        switch (kind) {
            case 2: rolls = 2 * (x + n) - 1 + m; break;
            case 5: rolls = 2 * (x + 1 + n) - 1 + m; break;
            default: rolls = 2 * loads;
        }
        int tells = rolls ^ dries;
        switch (kind) {
            case 4: tells = rolls - tells; break;
            case 6: tells = tells - 3 * (2 + n); break;
            default:
        }
        return new int[] {loads, rolls, dries, tells}[act];
    }

    private static void voices() {
        sentence("VOICES of a HAND, with a number x (ints that go round); n is the number, m as told");
        int[] xs = {0, 1, -1, 7, 1 << 30, -1 << 30, MAX, MAX - 5, MIN, MIN + 5, LOW, BEYOND};
        for (int km = 0; km < 70; km++) {
            Recorded x = made(1, 1, km, km, km, km, km, km);
            for (int i = 0; i < 6 * 4 * xs.length; i++) {
                int hand = i % 6;
                int act = i / 6 % 4;
                int v = xs[i / 24];
                due("voice " + act + " of " + km + ", " + hand, x.voice(hand, act, v), said(km / 10, act, hand, km % 10, v));
            }
            for (int k = 1; k <= 5; k++) {
                due("any number is no ERROR", x.told(k), 0);
            }
        }
        Recorded x = made(1, 1, 0, 0);
        due("loads goes round", x.voice(1, 0, MAX), MIN);
        due("rolls goes round", x.voice(0, 1, MAX), -2);
        x.become(0, 1);
        due("dries goes round", x.voice(0, 2, MIN), MAX);
        x.become(0, 10);
        due("the least stays, turned", x.voice(0, 2, MIN), MIN);
        sentence("0 loads, 1 rolls, 2 dries, 3 tells.");
        bound("act", rich(), BEYOND, 0, 3, (o, v) -> o.voice(0, v, 3));
    }

    private static void traces() {
        sentence("THE TRACE: the numbers of BODIES of the latest voice(), as they began (what stands left is worked out first), the first 40.");
        int[][][] bodies = {
            {{10}, {11, 10}, {12}, {13, 11, 10, 12}},
            {{10}, {11, 10}, {20, 12}, {13, 11, 10, 20, 12}},
            {{10}, {30, 11, 10, 12}, {12}, {13, 30, 11, 10, 12, 12}},
            {{40, 10}, {11, 40, 10}, {12}, {13, 11, 40, 10, 12}},
            {{10}, {11, 10}, {50, 20, 12}, {51, 11, 10, 13, 11, 10, 50, 20, 12}},
            {{10}, {60, 30, 11, 10, 12}, {12}, {13, 60, 30, 11, 10, 12, 12}},
            {{40, 10}, {11, 40, 10}, {12}, {70, 13, 11, 40, 10, 12, 40, 10}}};
        for (int kind = 0; kind <= 6; kind++) {
            for (int act = 0; act <= 3; act++) {
                Recorded x = rich();
                x.become(3, 10 * kind + 7);
                x.voice(3, act, 5);
                int[] due = bodies[kind][act];
                due("how many BODIES", x.count(10), due.length);
                for (int i = 0; i < due.length; i++) {
                    due("BODY " + i + " of " + kind + ", " + act, x.trace(i), due[i]);
                }
                bound("i", x, NONE, 0, due.length - 1, Recorded::trace);
                refuse("the TRACE stays", x, BEYOND, o -> o.voice(3, 4, 5));
            }
        }
        Recorded none = new Recorded();
        for (int i : new int[] {-1, 0, 1, 39, 40, MIN, MAX}) {
            refuse("no voice yet", none, NONE, o -> o.trace(i));
        }
        due("no BODIES", none.count(10), 0);
    }

    private static void seeds() {
        sentence("z becomes v: what it was (any number).");
        Recorded x = new Recorded();
        int was = 1;
        for (int v : new int[] {0, -1, MIN, MAX, LOW, BEYOND, KIND, 7}) {
            due("what it was", x.seed(v), was);
            due("z", x.count(11), v);
            was = v;
        }
        for (int k = 1; k <= 5; k++) {
            due("any number is no ERROR", x.told(k), 0);
        }
    }

    public static void main(String[] args) {
        bestOrders();
        orderOfASheet();
        heats();
        calledAway();
        worstStrips();
        howLong();
        cans();
        whose();
        odds();
        late();
        voices();
        traces();
        seeds();
        end();
    }
}
