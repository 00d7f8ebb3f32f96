/** Each promise by ordinary inputs, by the edges that the document names, and by wrong inputs. */
public final class PromisesTest extends Checks {
    private static void promise1() {
        part = "promise 1";
        Recorded x = new Recorded();
        int[] counts = {16, 0, 0, 0, 20, 0, 20, 3, 0, 0, 0, 1};
        for (int i = 0; i < counts.length; i++) {
            due("count(" + i + ")", x.count(i), counts[i]);
        }
        for (int cell = 0; cell < 16; cell++) {
            due("WHEN", x.ofCell(cell, 0), -1);
            due("WHITE", x.ofCell(cell, 1), 0);
            due("DRIES", x.ofCell(cell, 2), 7);
            due("seam", x.ofCell(cell, 3), 0);
        }
        for (int k = 1; k <= 5; k++) {
            due("told(" + k + ")", x.told(k), 0);
        }
        due("LIGHT", x.law(1, 0, 0, 4), 5);
        due("check", x.check(), 0);
        due("seams", x.seams(0) + x.seams(1), 0);
        refuse("restore", x, NONE, Recorded::restore);
        for (int s = 0; s < 4; s++) {
            int sheet = s;
            refuse("judge", x, NONE, o -> o.judge(sheet));
        }
        refuse("ofHand", x, BEYOND, o -> o.ofHand(0, 0));
        refuse("trace", x, NONE, o -> o.trace(0));
    }

    private static void promise2() {
        part = "promise 2";
        Recorded x = made(2, 3, 0);
        due("cells", x.count(0), 6);
        x.set(1, 1);
        x.roll(0, 1, 0);
        sheetOf(x, 0, 8, 9, 9, 9, 9, 9, 9);
        x.whites(0);
        due("MINUTE", x.count(2), 4);
        due("rolled", x.count(3), 2);
        due("ceiling", x.ceiling(3, 2), 6);
        for (int cell = 0; cell < 6; cell++) {
            due("WHEN", x.ofCell(cell, 0), -1);
            due("WHITE", x.ofCell(cell, 1), 0);
        }
        due("MINUTE stays", x.count(2), 4);
        due("LEFT stays", x.count(4), 19);
        due("WHITE of the can stays", x.count(5), 1);
        due("hands stay", x.count(1), 1);
        due("most", x.ceiling(6, 6), 36);
        due("WHEN of the last", x.ofCell(35, 0), -1);
        due("least", x.ceiling(1, 1), 1);
        due("by rows", x.ceiling(2, 5), 10);
        x.roll(0, 4, 0);
        due("cell of row 0", x.ofCell(4, 0), 6);
        due("cell of row 1", x.ofCell(9, 0), 8);
        int[][] bad = {{0, 1}, {1, 0}, {7, 1}, {1, 7}, {-1, 3}, {3, MIN}, {MAX, 3}};
        for (int[] b : bad) {
            refuse("ceiling(" + b[0] + ", " + b[1] + ")", x, BEYOND, o -> o.ceiling(b[0], b[1]));
        }
    }

    private static void promise3() {
        part = "promise 3";
        Recorded x = made(1, 1, 0);
        due("HEAT", x.set(0, 9), 3);
        due("HEAT", x.set(0, 0), 9);
        due("HEAT", x.count(7), 0);
        due("DRIES", x.ofCell(0, 2), 10);
        due("LEFT", x.set(1, 99), 20);
        due("LEFT", x.set(1, 0), 99);
        due("LEFT", x.count(4), 0);
        due("WHITE", x.set(2, 99), 0);
        due("WHITE", x.set(2, 7), 99);
        due("WHITE", x.count(5), 7);
        due("SIZE", x.set(3, 99), 20);
        due("SIZE", x.set(3, 1), 99);
        due("SIZE", x.count(6), 1);
        int[][] bad = {{0, -1}, {0, 10}, {1, -1}, {1, 100}, {2, -1}, {2, 100}, {3, 0}, {3, 100}, {4, 1}, {-1, 1},
            {MIN, 1}, {MAX, 1}, {0, MAX}, {3, MIN}};
        for (int[] b : bad) {
            refuse("set(" + b[0] + ", " + b[1] + ")", x, BEYOND, o -> o.set(b[0], b[1]));
        }
    }

    private static void promise4() {
        part = "promise 4";
        Recorded x = made(2, 2, 0);
        textOf(x, 0, "r*10+s*3+h");
        due("DRIES of 0", x.ofCell(0, 2), 3);
        due("DRIES of 1", x.ofCell(1, 2), 6);
        due("DRIES of 2", x.ofCell(2, 2), 13);
        due("DRIES of 3", x.ofCell(3, 2), 16);
        x.set(0, 5);
        due("DRIES of 3, warmer", x.ofCell(3, 2), 18);
        x.roll(0, 0, 0);
        x.minutes(6);
        x.set(1, 1);
        x.roll(0, 1, 0);
        due("WHEN", x.ofCell(0, 0), 2);
        due("WHEN", x.ofCell(2, 0), 4);
        due("WHEN", x.ofCell(1, 0), 12);
        due("WHEN", x.ofCell(3, 0), 14);
        due("WHITE", x.ofCell(1, 1), 0);
        due("WHITE", x.ofCell(3, 1), 1);
        due("seam: dry", x.ofCell(0, 3), 1);
        due("seam: another white", x.ofCell(2, 3), 1);
        due("none right of the last", x.ofCell(1, 3), 0);
        due("none right of the last", x.ofCell(3, 3), 0);
        int[][] bad = {{-1, 0}, {4, 0}, {0, -1}, {0, 4}, {MAX, 0}, {MIN, 0}, {0, MAX}, {0, MIN}};
        for (int[] b : bad) {
            refuse("ofCell(" + b[0] + ", " + b[1] + ")", x, BEYOND, o -> o.ofCell(b[0], b[1]));
        }
    }

    private static void promise5() {
        part = "promise 5";
        Recorded x = new Recorded();
        int[] kms = {0, 69, 15, 37, 42, 58};
        refuse("hand(70)", x, BEYOND, o -> o.hand(70));
        refuse("hand(-1)", x, BEYOND, o -> o.hand(-1));
        for (int i = 0; i < 6; i++) {
            due("hand", x.hand(kms[i]), i);
            due("hands", x.count(1), i + 1);
            due("KIND", x.ofHand(i, 0), kms[i] / 10);
            due("m", x.ofHand(i, 1), kms[i] % 10);
        }
        refuse("a seventh", x, FULL, o -> o.hand(0));
        refuse("BEYOND ahead of FULL", x, BEYOND, o -> o.hand(70));
        refuse("BEYOND ahead of FULL", x, BEYOND, o -> o.hand(MIN));
        refuse("BEYOND ahead of FULL", x, BEYOND, o -> o.hand(MAX));
    }

    private static void promise6() {
        part = "promise 6";
        // km, PACE for cell 0, for cell 3, LOAD, USES
        int[][] kinds = {{0, 2, 2, 2, 1}, {9, 2, 2, 2, 1}, {13, 3, 3, 2, 1}, {19, 3, 3, 2, 1},
            {20, 1, 1, 3, 1}, {21, 1, 1, 4, 1}, {22, 1, 1, 5, 1}, {23, 1, 1, 3, 1},
            {30, 1, 0, 9, 2}, {33, 1, 0, 9, 2}, {40, 3, 3, 2, 1}, {43, 3, 3, 2, 1}, {44, 4, 4, 2, 1},
            {49, 5, 5, 2, 1}, {50, 1, 2, 2, 1}, {51, 1, 2, 3, 1}, {52, 1, 2, 4, 1}, {60, 1, 0, 4, 2},
            {61, 1, 0, 4, 3}, {69, 1, 0, 4, 3}};
        Recorded x = made(4, 4, 0, 0);
        for (int[] k : kinds) {
            x.become(1, k[0]);
            due(k[0] + " KIND", x.ofHand(1, 0), k[0] / 10);
            due(k[0] + " m", x.ofHand(1, 1), k[0] % 10);
            for (int what = 2; what <= 5; what++) {
                due(k[0] + " of " + what, x.ofHand(1, what), k[what - 1]);
            }
        }
        int[][] bad = {{-1, 0}, {2, 0}, {0, -1}, {0, 6}, {6, 0}, {MAX, 0}, {MIN, 0}, {0, MAX}, {0, MIN}};
        for (int[] b : bad) {
            refuse("ofHand(" + b[0] + ", " + b[1] + ")", x, BEYOND, o -> o.ofHand(b[0], b[1]));
        }
    }

    private static void promise7() {
        part = "promise 7";
        Recorded x = made(4, 4, 13, 27);
        due("become", x.become(0, 69), 1);
        due("KIND", x.ofHand(0, 0), 6);
        due("m", x.ofHand(0, 1), 9);
        due("the other one stays", x.ofHand(1, 0), 2);
        due("become", x.become(0, 0), 6);
        due("become", x.become(0, 1), 0);
        int[][] bad = {{-1, 0}, {2, 0}, {0, -1}, {0, 70}, {MAX, 0}, {MIN, 0}, {0, MAX}, {0, MIN}};
        for (int[] b : bad) {
            refuse("become(" + b[0] + ", " + b[1] + ")", x, BEYOND, o -> o.become(b[0], b[1]));
        }
    }

    private static void promise8() {
        part = "promise 8";
        int[] above = {-1, 0, 0, 0, 1, 2, 3};
        Recorded x = made(4, 4, 0);
        for (int kind = 0; kind <= 6; kind++) {
            x.become(0, 10 * kind + 3);
            for (int other = 0; other <= 6; other++) {
                int as = other;
                if (other == 0 || other == kind || other == above[kind]) {
                    due(kind + " as " + other, x.as(0, other), 3);
                } else {
                    refuse(kind + " as " + other, x, KIND, o -> o.as(0, as));
                }
            }
        }
        refuse("BEYOND of the hand", x, BEYOND, o -> o.as(1, 0));
        refuse("BEYOND of the hand", x, BEYOND, o -> o.as(-1, 0));
        refuse("BEYOND of the kind", x, BEYOND, o -> o.as(0, 7));
        refuse("BEYOND of the kind", x, BEYOND, o -> o.as(0, -1));
        refuse("BEYOND", x, BEYOND, o -> o.as(MIN, MAX));
    }

    private static void promise9() {
        part = "promise 9";
        Recorded x = new Recorded();
        refuse("feed none", x, BEYOND, o -> o.feed(0L, 0));
        refuse("feed nine", x, BEYOND, o -> o.feed(0L, 9));
        refuse("feed", x, BEYOND, o -> o.feed(-1L, MIN));
        due("lowest first", x.feed('1' | '2' << 8 | '3' << 16 | (long) '9' << 24, 3), 3);
        due("text", x.text(0), 1);
        due("law", x.law(0, 0, 0, 0), 99);
        textOf(x, 0, "99");
        x.feed('1' | '2' << 8, 2);
        x.text(0);
        due("law", x.law(0, 0, 0, 0), 12);
        due("eight", x.feed(0x302b302b302b302bL, 8), 8);
        due("fault at the first", x.text(0), -10);
        long eight = 0x35;
        for (int i = 1; i < 8; i++) {
            eight = eight << 8 | (i % 2 == 0 ? '1' : '+');
        }
        // lowest first: + 1 + 1 + 1 + 5
        x.feed('1', 1);
        due("nine bytes", x.feed(eight, 8), 9);
        due("text", x.text(0), 1);
        due("law", x.law(0, 0, 0, 0), 9);
        for (int i = 1; i <= 6; i++) {
            due("feed", x.feed(eight, 8), 8 * i);
        }
        refuse("three more", x, FULL, o -> o.feed(0L, 3));
        refuse("BEYOND ahead of FULL", x, BEYOND, o -> o.feed(0L, 9));
        due("fifty", x.feed(0L, 2), 50);
        refuse("one more", x, FULL, o -> o.feed(0L, 1));
        due("bytes", x.count(8), 50);
    }

    private static void good(Recorded x, String text, int a, int b, int c, int value) {
        due(text, textOf(x, 0, text), 1);
        due(text + " gives", x.law(0, a, b, c), value);
    }

    private static void bad(Recorded x, String text, int fault) {
        due(text, textOf(x, 0, text), -10 - fault);
        due(text + " stays out", x.law(0, 1, 2, 3), 42);
        due("the tape is empty", x.count(8), 0);
    }

    private static void promise10() {
        part = "promise 10";
        Recorded x = new Recorded();
        good(x, "2+3*4", 0, 0, 0, 14);
        good(x, "20-3-4", 0, 0, 0, 13);
        good(x, "80/5/3%4", 0, 0, 0, 1);
        good(x, "7-9+50", 0, 0, 0, 48);
        good(x, "(2+3)*4", 0, 0, 0, 20);
        good(x, "r+s*h", 2, 3, 4, 14);
        good(x, "1<2", 0, 0, 0, 1);
        good(x, "2<2|2>2|2=3", 0, 0, 0, 0);
        good(x, "5|0", 0, 0, 0, 1);
        good(x, "5&3", 0, 0, 0, 1);
        good(x, "5&0", 0, 0, 0, 0);
        good(x, "1|0&0", 0, 0, 0, 1);
        good(x, "0&0|7", 0, 0, 0, 1);
        good(x, "1+1=2&3>2", 0, 0, 0, 1);
        good(x, "3<2+2", 0, 0, 0, 1);
        good(x, "!5+3", 0, 0, 0, 3);
        good(x, "!!5*4", 0, 0, 0, 4);
        good(x, "!(5+3)+1", 0, 0, 0, 1);
        good(x, "0009", 0, 0, 0, 9);
        good(x, "5/0+5%0+2", 0, 0, 0, 2);
        good(x, "(0-7)/2+20", 0, 0, 0, 17);
        good(x, "(0-7)%2+20", 0, 0, 0, 19);
        good(x, "r/s+5", MIN, -1, 0, 0);
        good(x, "r%s+5", MIN, -1, 0, 5);
        good(x, "r+s>0", MAX, 1, 0, 0);
        good(x, "9999*9999*9999>0", 0, 0, 0, 9999 * 9999 * 9999 > 0 ? 1 : 0);
        good(x, "!!!!!7", 0, 0, 0, 0);
        good(x, "(((((7)))))", 0, 0, 0, 7);
        good(x, "!(!(!7))+(((((1)))))", 0, 0, 0, 1);
        good(x, "(1<2)<3", 0, 0, 0, 1);
        good(x, "42", 0, 0, 0, 42);
        bad(x, "", 0);
        bad(x, "w", 0);
        bad(x, " 1", 0);
        bad(x, "1 ", 1);
        bad(x, "12345", 4);
        bad(x, "1<2<3", 3);
        bad(x, "1=2>3", 3);
        bad(x, "1+", 2);
        bad(x, "1+*2", 2);
        bad(x, "-1", 0);
        bad(x, "(1", 2);
        bad(x, "(1+", 3);
        bad(x, "1)", 1);
        bad(x, "()", 1);
        bad(x, "!", 1);
        bad(x, "1!", 1);
        bad(x, "rs", 1);
        bad(x, "r1", 1);
        bad(x, "1r", 1);
        bad(x, "!!!!!!7", 5);
        bad(x, "((((((7))))))", 5);
        bad(x, "!!!!!(7)", 5);
        bad(x, "(!(!(!7)))", 5);
        bad(x, "((((((", 5);
        bad(x, "(((((", 5);
        bad(x, "1||2", 2);
        bad(x, "(1))", 3);
        bad(x, "(1+2", 4);
        for (int v : new int[] {0, 127, 128, 200, 255}) {
            x.feed('7', 1);
            x.feed(v, 1);
            due("byte " + v, x.text(0), -11);
        }
        due("w is LIGHT's", textOf(x, 1, "w+r+s"), 1);
        due("h is not", textOf(x, 1, "h"), -10);
        due("LIGHT", x.law(1, 1, 2, 4), 7);
        due("DRIES stays", x.law(0, 1, 2, 3), 42);
        String fifty = "1+1+1+1+1+1+1+1+1+1+1+1+1+1+1+1+1+1+1+1+1+1+1+1+12";
        due("as many bytes", fifty.length(), 50);
        good(x, fifty, 0, 0, 0, 36);
        feedBytes(x, "42");
        refuse("text(2)", x, BEYOND, o -> o.text(2));
        refuse("text(-1)", x, BEYOND, o -> o.text(-1));
        due("the tape stays", x.count(8), 2);
        due("text", x.text(0), 1);
        int errors = x.told(1) + x.told(2) + x.told(3) + x.told(4) + x.told(5);
        due("a fault is no ERROR", errors, 0);
    }

    private static void promise11() {
        part = "promise 11";
        Recorded x = new Recorded();
        for (int h = 0; h <= 9; h++) {
            due("DRIES", x.law(0, 1, 1, h), 10 - h);
        }
        due("held", x.law(0, 0, 0, 11), 0);
        due("held", x.law(0, 0, 0, -90), 99);
        due("LIGHT", x.law(1, 5, 5, 0), 1);
        due("LIGHT", x.law(1, 5, 5, 98), 99);
        textOf(x, 0, "r*100+s*10-h");
        due("names in order", x.law(0, 0, 4, 3), 37);
        due("held", x.law(0, 1, 0, 0), 99);
        due("held", x.law(0, 1, 0, 1), 99);
        due("held", x.law(0, 0, 0, 1), 0);
        due("held", x.law(0, -5, 0, 1), 0);
        textOf(x, 1, "r-s-w");
        due("names in order", x.law(1, 50, 9, 4), 37);
        refuse("law(2)", x, BEYOND, o -> o.law(2, 0, 0, 0));
        refuse("law(-1)", x, BEYOND, o -> o.law(-1, 0, 0, 0));
        refuse("law", x, BEYOND, o -> o.law(MIN, MAX, MIN, MAX));
    }

    private static void rolled(int km, int... whens) {
        Recorded x = made(6, 2, km);
        due(km + " down", x.roll(0, 0, 0), whens[5]);
        int begin = whens[5];
        due(km + " up", x.roll(0, 1, 1), 2 * begin);
        for (int row = 0; row < 6; row++) {
            due(km + " row " + row, x.ofCell(2 * row, 0), whens[row]);
            due(km + " row " + row + " up", x.ofCell(2 * row + 1, 0), begin + whens[5 - row]);
        }
    }

    private static void promise12() {
        part = "promise 12";
        rolled(0, 2, 4, 7, 9, 12, 14);
        rolled(15, 3, 6, 10, 13, 17, 20);
        rolled(20, 1, 2, 3, 5, 6, 7);
        rolled(21, 1, 2, 3, 4, 6, 7);
        rolled(22, 1, 2, 3, 4, 5, 7);
        rolled(39, 1, 1, 2, 2, 3, 3);
        rolled(43, 3, 6, 10, 13, 17, 20);
        rolled(44, 4, 8, 13, 17, 22, 26);
        rolled(49, 5, 10, 16, 21, 27, 32);
        rolled(50, 1, 2, 4, 6, 9, 11);
        rolled(52, 1, 2, 3, 5, 8, 10);
        rolled(60, 1, 1, 2, 2, 4, 4);
        canIsUsed();
        Recorded x = made(1, 1, 0);
        for (int i = 0; i < 19; i++) {
            x.minutes(500);
        }
        x.minutes(400);
        due("at 9900", x.roll(0, 0, 0), 9902);
        refuse("behind 9900", x, STATE, o -> o.roll(0, 0, 0));
        Recorded just = made(1, 1, 20);
        for (int i = 0; i < 19; i++) {
            just.minutes(500);
        }
        just.minutes(400);
        just.roll(0, 0, 0);
        refuse("just behind 9900", just, STATE, o -> o.roll(0, 0, 0));
        refuse("BEYOND ahead of STATE", x, BEYOND, o -> o.roll(0, 0, 2));
        Recorded y = made(2, 3, 0);
        int[][] bad = {{1, 0, 0}, {-1, 0, 0}, {0, 3, 0}, {0, -1, 0}, {0, 0, 2}, {0, 0, -1}, {MAX, MIN, MAX}};
        for (int[] b : bad) {
            refuse("roll", y, BEYOND, o -> o.roll(b[0], b[1], b[2]));
        }
    }

    private static void canIsUsed() {
        Recorded x = made(3, 2, 0, 30, 61);
        x.set(1, 2);
        x.set(3, 5);
        x.roll(0, 0, 0);
        due("WHITE of 0", x.ofCell(0, 1), 0);
        due("WHITE of 2", x.ofCell(2, 1), 0);
        due("WHITE of 4", x.ofCell(4, 1), 1);
        due("LEFT", x.count(4), 4);
        x.roll(1, 1, 0);
        due("LEFT", x.count(4), 3);
        due("WHITE of 3", x.ofCell(3, 1), 1);
        due("WHITE of 5", x.ofCell(5, 1), 2);
        x.set(3, 1);
        x.set(2, 98);
        x.roll(2, 0, 1);
        due("an ample can", x.ofCell(4, 1), 98);
        due("its rest doesn't do", x.ofCell(2, 1), 99);
        due("back to 0", x.ofCell(0, 1), 0);
        due("LEFT is 0 at least", x.count(4), 0);
        due("WHITE of the can", x.count(5), 0);
    }

    private static void promise13() {
        part = "promise 13";
        Recorded x = new Recorded();
        due("minutes", x.minutes(1), 1);
        due("minutes", x.minutes(500), 501);
        refuse("none", x, BEYOND, o -> o.minutes(0));
        refuse("too many", x, BEYOND, o -> o.minutes(501));
        refuse("below", x, BEYOND, o -> o.minutes(-1));
        refuse("far", x, BEYOND, o -> o.minutes(MAX));
        refuse("far", x, BEYOND, o -> o.minutes(MIN));
        for (int i = 0; i < 18; i++) {
            x.minutes(500);
        }
        due("minute", x.count(2), 9501);
        refuse("above 9999", x, STATE, o -> o.minutes(499));
        due("to the last", x.minutes(498), 9999);
        refuse("above 9999", x, STATE, o -> o.minutes(1));
        refuse("BEYOND ahead of STATE", x, BEYOND, o -> o.minutes(501));
    }

    private static int next(int z) {
        return z * 1103515245 + 12345;
    }

    private static void daysGoBy(int n, int seed) {
        Recorded x = made(2, 3, 0, 20, 31);
        Recorded byHand = made(2, 3, 0, 20, 31);
        int z = seed;
        x.seed(z);
        int seen = x.days(n);
        for (int i = 0; i < n; i++) {
            int hand = ((z = next(z)) >>> 8) % 3;
            int strip = ((z = next(z)) >>> 8) % 3;
            int way = ((z = next(z)) >>> 8) % 2;
            int pause = ((z = next(z)) >>> 8) % 8;
            if (pause > 0) {
                byHand.minutes(pause);
            }
            byHand.roll(hand, strip, way);
        }
        due("z", x.count(11), z);
        due("SEEN", seen, byHand.seams(1));
        due("MINUTE", x.count(2), byHand.count(2));
        for (int cell = 0; cell < 6; cell++) {
            due("WHEN", x.ofCell(cell, 0), byHand.ofCell(cell, 0));
            due("WHITE", x.ofCell(cell, 1), byHand.ofCell(cell, 1));
        }
    }

    private static void promise14() {
        part = "promise 14";
        for (int n = 1; n <= 30; n++) {
            daysGoBy(n, -77 * n);
            daysGoBy(n, 1 << n);
        }
        Recorded x = made(2, 3, 0, 20, 31);
        refuse("none", x, BEYOND, o -> o.days(0));
        refuse("too many", x, BEYOND, o -> o.days(31));
        refuse("far", x, BEYOND, o -> o.days(MIN));
        Recorded y = new Recorded();
        refuse("BEYOND ahead of STATE", y, BEYOND, o -> o.days(31));
        refuse("no hands", y, STATE, o -> o.days(1));
        Recorded late = made(1, 1, 0);
        for (int i = 0; i < 19; i++) {
            late.minutes(500);
        }
        late.minutes(401);
        late.days(30);
        due("no strip is rolled above 9900", late.count(3), 0);
        late.days(30);
        due("MINUTE is 9999 at most", late.count(2), 9999);
    }

    private static void promise15() {
        part = "promise 15";
        Recorded x = made(1, 2, 0);
        x.roll(0, 0, 0);
        due("one alone", x.seams(0), 0);
        x.minutes(5);
        x.roll(0, 1, 0);
        due("just not dry", x.seams(0), 0);
        x.ceiling(1, 2);
        x.roll(0, 0, 0);
        x.minutes(6);
        x.roll(0, 1, 0);
        due("just dry", x.seams(0), 1);
        due("SEEN", x.seams(1), 1);
        sheetOf(x, 0, 8, 7, 3);
        x.whites(0);
        due("another white, too", x.seams(0), 1);
        due("SEEN", x.seams(1), 5);
        textOf(x, 1, "w-4");
        due("not seen", x.seams(1), 0);
        due("a seam, though", x.seams(0), 1);
        textOf(x, 0, "s*20");
        x.ceiling(1, 2);
        x.roll(0, 1, 0);
        x.minutes(9);
        x.roll(0, 0, 0);
        due("the right one was earlier", x.seams(0), 0);
        x.roll(0, 1, 0);
        due("the left one was earlier", x.seams(0), 1);
        Recorded y = made(2, 3, 30);
        textOf(y, 1, "r*10+s+1");
        textOf(y, 0, "0");
        y.roll(0, 0, 0);
        y.roll(0, 1, 0);
        y.roll(0, 2, 0);
        due("all seams", y.seams(0), 4);
        due("by row and left strip", y.seams(1), 1 + 2 + 11 + 12);
        Recorded most = made(6, 6, 30);
        textOf(most, 0, "0");
        textOf(most, 1, "r*10+s+1");
        most.set(1, 99);
        for (int strip = 0; strip < 6; strip++) {
            most.roll(0, strip, 0);
        }
        due("all seams", most.seams(0), 30);
        due("each by its own light", most.seams(1), 840);
        refuse("seams(2)", y, BEYOND, o -> o.seams(2));
        refuse("seams(-1)", y, BEYOND, o -> o.seams(-1));
        refuse("seams", y, BEYOND, o -> o.seams(MIN));
    }

    private static void promise16() {
        part = "promise 16";
        Recorded x = made(1, 3, 0, 10);
        x.set(0, 8);
        sheetOf(x, 0, 8, 0, 1, 2);
        sheetOf(x, 1, 16, 0, 2, 1);
        sheetOf(x, 2, 32, 1, 0, 2);
        due("0 1 2", x.done(0, 0), 0);
        due("0 2 1", x.done(0, 1), 1);
        due("1 0 2", x.done(0, 2), 1);
        due("0 1 2 brushing", x.done(1, 0), 2);
        x.set(1, 1);
        due("another white", x.done(0, 0), 2);
        due("nothing is done", x.count(2) + x.count(3), 0);
        due("LEFT stays", x.count(4), 1);
        x.set(1, 20);
        refuse("no hand", x, BEYOND, o -> o.done(2, 0));
        refuse("no hand", x, BEYOND, o -> o.done(-1, 3));
        refuse("no sheet", x, BEYOND, o -> o.done(0, 4));
        refuse("no sheet", x, BEYOND, o -> o.done(0, -1));
        refuse("missing", x, NONE, o -> o.done(0, 3));
        int[][] rows = {{0, 1, 1}, {0, 1}, {0, 1, 2, 0}, {0, 1, 3}, {0, 1, -1}, {}, {0, 1, 2, 3}};
        for (int[] row : rows) {
            sheetOf(x, 3, 8, row);
            refuse("no such row", x, STATE, o -> o.done(0, 3));
        }
    }

    private static void promise17() {
        part = "promise 17";
        Recorded x = made(1, 3, 0);
        due("best of all alike", x.order(0, -1), 0);
        for (int place = 0; place < 3; place++) {
            due("the first row", x.order(0, place), place);
        }
        textOf(x, 0, "(s=2)*99");
        int[] best = {0, 2, 1};
        due("SEEN", x.order(0, -1), 1);
        for (int place = 0; place < 3; place++) {
            due("place " + place, x.order(0, place), best[place]);
        }
        textOf(x, 0, "(s=1)*99");
        due("SEEN", x.order(0, -1), 0);
        due("begins in the middle", x.order(0, 0), 1);
        due("then", x.order(0, 1), 0);
        due("then", x.order(0, 2), 2);
        due("nothing is done", x.count(2) + x.count(3), 0);
        refuse("no place", x, BEYOND, o -> o.order(0, 3));
        refuse("no place", x, BEYOND, o -> o.order(0, -2));
        refuse("no hand", x, BEYOND, o -> o.order(1, 0));
        refuse("no hand", x, BEYOND, o -> o.order(-1, 0));
        Recorded one = made(6, 1, 20);
        due("one strip", one.order(0, -1), 0);
        due("one strip", one.order(0, 0), 0);
        refuse("no place", one, BEYOND, o -> o.order(0, 1));
        Recorded six = made(1, 6, 0);
        // Only neighbours stay wet for one another, and strip 0 for none: so there is but the last row.
        textOf(six, 0, "(s>0)*2");
        due("SEEN of the last row", six.order(0, -1), 0);
        for (int place = 0; place < 6; place++) {
            due("the last row", six.order(0, place), 5 - place);
        }
        Recorded down = made(3, 2, 0);
        down.set(1, 4);
        textOf(down, 1, "r+1");
        due("rolled down: the new can is opened in row 1", down.order(0, -1), 5);
        down.set(1, 5);
        due("rolled down: the new can is opened in row 2", down.order(0, -1), 3);
    }

    private static void promise18() {
        part = "promise 18";
        Recorded x = made(1, 3, 0, 49);
        due("CLEAN", x.clean(0, 0), 0);
        due("WARMEST", x.clean(0, 1), 8);
        due("WARMEST, stilted", x.clean(1, 1), 5);
        textOf(x, 0, "(h>2)*(h<6)*9+(h=1)");
        due("CLEAN", x.clean(0, 0), 3);
        due("WARMEST", x.clean(0, 1), 5);
        due("HEAT stays", x.count(7), 3);
        textOf(x, 0, "(h=9)*9");
        due("CLEAN at the last", x.clean(0, 0), 9);
        textOf(x, 0, "0");
        refuse("with none", x, NONE, o -> o.clean(0, 0));
        refuse("with none", x, NONE, o -> o.clean(0, 1));
        refuse("BEYOND", x, BEYOND, o -> o.clean(0, 2));
        refuse("BEYOND", x, BEYOND, o -> o.clean(0, -1));
        refuse("BEYOND", x, BEYOND, o -> o.clean(2, 0));
        refuse("BEYOND", x, BEYOND, o -> o.clean(-1, 0));
    }

    private static void promise19() {
        part = "promise 19";
        Recorded x = made(1, 3, 0);
        textOf(x, 1, "s*5+1");
        due("just not dry", x.called(0, 1, 5), 0);
        due("dry", x.called(0, 1, 6), 1);
        due("dry", x.called(0, 2, 6), 6);
        due("not away", x.called(0, 2, 0), 0);
        due("long", x.called(0, 2, 500), 6);
        due("nothing is done", x.count(2) + x.count(3), 0);
        int[][] bad = {{0, 0, 1}, {0, 3, 1}, {0, -1, 1}, {1, 1, 1}, {-1, 1, 1}, {0, 1, -1}, {0, 1, 501},
            {MAX, MIN, MAX}};
        for (int[] b : bad) {
            refuse("called", x, BEYOND, o -> o.called(b[0], b[1], b[2]));
        }
        x.set(1, 2);
        due("another white behind the second", x.called(0, 1, 6), 7);
        for (int i = 0; i < 19; i++) {
            x.minutes(500);
        }
        x.minutes(499);
        due("beyond all bounds of MINUTE", x.called(0, 1, 6), 7);
        Recorded one = made(1, 1, 0);
        refuse("one strip", one, BEYOND, o -> o.called(0, 0, 1));
        refuse("one strip", one, BEYOND, o -> o.called(0, 1, 1));
    }

    private static void promise20() {
        part = "promise 20";
        Recorded x = made(1, 4, 0);
        due("all alike: the least", x.worst(0, 6, 0), 1);
        due("SEEN", x.worst(0, 6, 1), 1);
        due("none", x.worst(0, 5, 1), 0);
        due("none: the least", x.worst(0, 5, 0), 1);
        textOf(x, 1, "(s=1)*5+3");
        due("the middle", x.worst(0, 500, 0), 2);
        due("SEEN", x.worst(0, 500, 1), 8);
        textOf(x, 1, "s");
        due("the last", x.worst(0, 6, 0), 3);
        due("SEEN", x.worst(0, 6, 1), 2);
        due("not away at all", x.worst(0, 0, 0), 1);
        due("not away at all", x.worst(0, 0, 1), 0);
        int[][] bad = {{1, 1, 0}, {-1, 1, 0}, {0, -1, 0}, {0, 501, 0}, {0, 1, 2}, {0, 1, -1}};
        for (int[] b : bad) {
            refuse("worst", x, BEYOND, o -> o.worst(b[0], b[1], b[2]));
        }
        Recorded one = made(1, 1, 0);
        refuse("one strip", one, NONE, o -> o.worst(0, 1, 0));
        refuse("BEYOND ahead of NONE", one, BEYOND, o -> o.worst(0, 501, 0));
        refuse("BEYOND ahead of NONE", one, BEYOND, o -> o.worst(0, 1, 2));
    }

    private static void promise21() {
        part = "promise 21";
        Recorded x = made(1, 3, 0);
        due("until dry", x.howLong(0, 1), 5);
        textOf(x, 0, "s*90");
        due("dry at once", x.howLong(0, 1), 500);
        due("until dry", x.howLong(0, 2), 88);
        textOf(x, 0, "99");
        due("until dry", x.howLong(0, 1), 97);
        textOf(x, 1, "0");
        due("never seen", x.howLong(0, 1), 500);
        refuse("s 0", x, BEYOND, o -> o.howLong(0, 0));
        refuse("s 3", x, BEYOND, o -> o.howLong(0, 3));
        refuse("s -1", x, BEYOND, o -> o.howLong(0, -1));
        refuse("hand", x, BEYOND, o -> o.howLong(1, 1));
        refuse("hand", x, BEYOND, o -> o.howLong(-1, 1));
        Recorded none = made(1, 3, 0);
        none.set(0, 8);
        due("none", none.howLong(0, 1), 0);
    }

    private static void promise22() {
        part = "promise 22";
        Recorded x = made(4, 4, 0, 30, 61);
        due("one can does", x.cans(0), 0);
        due("sprayed", x.cans(1), 1);
        due("dripped", x.cans(2), 2);
        x.set(1, 0);
        due("from an empty one", x.cans(0), 1);
        x.set(3, 1);
        due("small cans", x.cans(0), 16);
        due("small cans", x.cans(2), 16);
        due("nothing is done", x.count(4) + x.count(5), 0);
        x.roll(0, 0, 0);
        due("those begun don't count", x.cans(0), 16);
        refuse("hand", x, BEYOND, o -> o.cans(3));
        refuse("hand", x, BEYOND, o -> o.cans(-1));
        refuse("hand", x, BEYOND, o -> o.cans(MAX));
    }

    private static void whoseIs(Recorded x, int kind, int... whens) {
        sheetOf(x, 1, 32, whens);
        due("whose", x.whose(0, 1, 1), kind);
    }

    private static void promise23() {
        part = "promise 23";
        Recorded x = made(6, 2, 4);
        whoseIs(x, 0, 2, 4, 7, 9, 12, 14);
        whoseIs(x, 1, 3, 6, 10, 13, 17, 20);
        whoseIs(x, 2, 1, 2, 3, 4, 6, 7);
        whoseIs(x, 3, 1, 1, 2, 2, 3, 3);
        whoseIs(x, 4, 4, 8, 13, 17, 22, 26);
        whoseIs(x, 5, 1, 2, 3, 6, 8, 10);
        whoseIs(x, 6, 1, 1, 2, 2, 4, 4);
        x.become(0, 63);
        whoseIs(x, 1, 3, 6, 10, 13, 17, 20);
        x.minutes(100);
        whoseIs(x, 0, 102, 104, 107, 109, 112, 114);
        sheetOf(x, 1, 32, 2, 4, 7, 9, 12, 14);
        refuse("by none", x, NONE, o -> o.whose(0, 0, 1));
        sheetOf(x, 1, 32, 102, 104, 107, 109, 112);
        refuse("one lacks", x, NONE, o -> o.whose(0, 0, 1));
        sheetOf(x, 1, 32, 102, 104, 107, 109, 112, 114, 0);
        refuse("one too many", x, NONE, o -> o.whose(0, 0, 1));
        refuse("missing", x, NONE, o -> o.whose(0, 0, 2));
        refuse("hand", x, BEYOND, o -> o.whose(1, 0, 2));
        refuse("hand", x, BEYOND, o -> o.whose(-1, 0, 2));
        refuse("strip", x, BEYOND, o -> o.whose(0, 2, 2));
        refuse("strip", x, BEYOND, o -> o.whose(0, -1, 2));
        refuse("sheet", x, BEYOND, o -> o.whose(0, 0, 4));
        refuse("sheet", x, BEYOND, o -> o.whose(0, 0, -1));
        due("nothing is done", x.count(3), 0);
    }

    private static void promise24() {
        part = "promise 24";
        Recorded x = made(1, 3, 0);
        int[][] due = {{6, 0, 1, 4}, {6, 1, 3, 4}, {6, 2, 1, 1}, {6, 9999, 1, 1}, {5, 0, 1, 1}, {0, 0, 1, 1}};
        for (int[] d : due) {
            due("odds above", x.odds(0, d[0], d[1], 0), d[2]);
            due("odds below", x.odds(0, d[0], d[1], 1), d[3]);
        }
        textOf(x, 1, "s*5+1");
        due("by the light", x.odds(0, 6, 5, 0), 1);
        due("by the light", x.odds(0, 6, 5, 1), 2);
        x.set(1, 1);
        due("never", x.odds(0, 6, 0, 0), 0);
        due("never", x.odds(0, 6, 0, 1), 1);
        Recorded six = made(1, 6, 0);
        due("of 32", six.odds(0, 6, 0, 0), 1);
        due("of 32", six.odds(0, 6, 0, 1), 32);
        due("of 32", six.odds(0, 6, 1, 0), 3);
        due("of 32", six.odds(0, 6, 1, 1), 16);
        due("of 32", six.odds(0, 6, 2, 0), 1);
        due("of 32", six.odds(0, 6, 2, 1), 2);
        int[][] bad = {{1, 1, 1, 0}, {-1, 1, 1, 0}, {0, -1, 1, 0}, {0, 501, 1, 0}, {0, 1, -1, 0}, {0, 1, 10000, 0},
            {0, 1, 1, 2}, {0, 1, 1, -1}};
        for (int[] b : bad) {
            refuse("odds", x, BEYOND, o -> o.odds(b[0], b[1], b[2], b[3]));
        }
    }

    private static void promise25() {
        part = "promise 25";
        Recorded x = made(1, 1, 0);
        due("seed", x.seed(MIN), 1);
        due("seed", x.seed(BEYOND), MIN);
        due("seed", x.seed(7), BEYOND);
        due("any number is no ERROR", x.told(1), 0);
        x.days(1);
        due("four draws", x.count(11), next(next(next(next(7)))));
    }

    private static void promise26() {
        part = "promise 26";
        int[][] due = {{5, 10, -2, -12}, {5, 10, 2, 8}, {5, 14, -2, -16}, {15, 30, -2, -32},
            {5, 10, 0, 0}, {5, 16, -2, -18}, {15, 30, -2, -44}};
        Recorded x = made(1, 1, 0, 0, 0);
        for (int kind = 0; kind <= 6; kind++) {
            x.become(2, 10 * kind + 5);
            for (int act = 0; act <= 3; act++) {
                due("kind " + kind + " act " + act, x.voice(2, act, 3), due[kind][act]);
            }
        }
        x.become(2, 5);
        due("goes round", x.voice(2, 0, MAX), MIN + 1);
        due("goes round", x.voice(2, 2, MIN), MAX - 4);
        due("any number", x.voice(2, 0, BEYOND - 2), BEYOND);
        due("is no ERROR", x.told(1), 0);
        refuse("act", x, BEYOND, o -> o.voice(2, 4, 0));
        refuse("act", x, BEYOND, o -> o.voice(2, -1, 0));
        refuse("hand", x, BEYOND, o -> o.voice(3, 0, 0));
        refuse("hand", x, BEYOND, o -> o.voice(-1, 0, 0));
    }

    private static void heard(int kind, int act, int... bodies) {
        Recorded x = made(1, 1, 10 * kind + 5);
        x.voice(0, 3, 9);
        x.voice(0, act, 3);
        due("bodies of kind " + kind, x.count(10), bodies.length);
        for (int i = 0; i < bodies.length; i++) {
            due("kind " + kind + " act " + act + " trace " + i, x.trace(i), bodies[i]);
        }
        refuse("behind the last", x, NONE, o -> o.trace(bodies.length));
        refuse("ahead of the first", x, NONE, o -> o.trace(-1));
        refuse("far", x, NONE, o -> o.trace(MAX));
        refuse("far", x, NONE, o -> o.trace(MIN));
    }

    private static void promise27() {
        part = "promise 27";
        heard(0, 0, 10);
        heard(0, 3, 13, 11, 10, 12);
        heard(1, 3, 13, 11, 10, 20, 12);
        heard(2, 1, 30, 11, 10, 12);
        heard(3, 1, 11, 40, 10);
        heard(4, 3, 51, 11, 10, 13, 11, 10, 50, 20, 12);
        heard(5, 3, 13, 60, 30, 11, 10, 12, 12);
        heard(6, 3, 70, 13, 11, 40, 10, 12, 40, 10);
    }

    private static void promise28() {
        part = "promise 28";
        Recorded x = made(1, 2, 0);
        due("sheet", x.sheet(0, 8, 2), 1);
        x.put(0, 0, -1);
        x.put(0, 1, -1);
        due("its numbers", x.judge(0), -1);
        due("anew", x.sheet(0, 16, 2), 1);
        due("all 0", x.judge(0), 0);
        due("none", x.sheet(0, 32, 0), 1);
        due("none, not missing", x.judge(0), 0);
        due("most", x.sheet(0, 32, 40), 1);
        due("the last", x.put(0, 39, 1), 1);
        refuse("behind the last", x, BEYOND, o -> o.put(0, 40, 1));
        refuse("41", x, BEYOND, o -> o.sheet(0, 8, 41));
        refuse("far", x, BEYOND, o -> o.sheet(0, 8, MAX));
        refuse("below 0", x, STATE, o -> o.sheet(0, 8, -1));
        refuse("below 0", x, STATE, o -> o.sheet(0, 32, MIN));
        due("it stayed", x.put(0, 39, 1), 1);
        refuse("no such sheet", x, BEYOND, o -> o.sheet(4, 8, -1));
        refuse("no such sheet", x, BEYOND, o -> o.sheet(-1, 8, 1));
        for (int bits : new int[] {-1, 1, 7, 9, 24, 64, MAX, MIN}) {
            refuse("bits", x, BEYOND, o -> o.sheet(0, bits, -1));
        }
        due("missing", x.sheet(0, 0, -9), 1);
        refuse("missing", x, NONE, o -> o.judge(0));
        refuse("missing, of no such sheet", x, BEYOND, o -> o.sheet(4, 0, 0));
        due("missing again", x.sheet(0, 0, 99), 1);
    }

    private static void readsAs(int bits, int v, int white) {
        Recorded x = made(1, 1, 0);
        sheetOf(x, 0, bits, v);
        due(v + " of " + bits + " bits", x.whites(0), white < 0 ? 0 : 1);
        due(v + " of " + bits + " bits", x.ofCell(0, 1), Math.max(0, white));
    }

    private static void promise29() {
        part = "promise 29";
        readsAs(8, 256 + 7, 7);
        readsAs(8, 99, 99);
        readsAs(8, 255, -1);
        readsAs(16, 256 + 7, -1);
        readsAs(16, 65536 + 7, 7);
        readsAs(32, 65536 + 7, -1);
        readsAs(32, 7, 7);
        Recorded x = made(1, 1, 0);
        for (int bits : new int[] {8, 16, 32}) {
            sheetOf(x, 0, bits, -1);
            due("-1 is -1", x.judge(0), -1);
        }
        sheetOf(x, 0, 8, 255);
        due("255 of 8 bits is -1", x.judge(0), -1);
        sheetOf(x, 0, 16, 255);
        due("255 of 16 bits is not", x.judge(0), 0);
        refuse("no such sheet", x, BEYOND, o -> o.put(4, 0, 0));
        refuse("no such sheet", x, BEYOND, o -> o.put(-1, 0, 0));
        refuse("missing", x, NONE, o -> o.put(1, -5, 0));
        refuse("no such number", x, BEYOND, o -> o.put(0, 1, 0));
        refuse("no such number", x, BEYOND, o -> o.put(0, -1, 0));
        refuse("no such number", x, BEYOND, o -> o.put(0, MAX, 0));
    }

    private static void holds(Recorded x, int sheet, int... numbers) {
        x.ceiling(1, numbers.length);
        due("numbers", x.whites(sheet), numbers.length);
        for (int i = 0; i < numbers.length; i++) {
            due("number " + i, x.ofCell(i, 1), numbers[i]);
        }
    }

    private static void promise30() {
        part = "promise 30";
        Recorded x = made(1, 5, 0);
        sheetOf(x, 0, 8, 1, 2, 3, 4, 5);
        sheetOf(x, 1, 8, 6, 7, 8);
        due("to another", x.move(0, 3, 1, 1, 2), 2);
        holds(x, 1, 6, 4, 5);
        holds(x, 0, 1, 2, 3, 4, 5);
        due("behind itself", x.move(0, 0, 0, 1, 4), 4);
        holds(x, 0, 1, 1, 2, 3, 4);
        due("ahead of itself", x.move(0, 1, 0, 0, 4), 4);
        holds(x, 0, 1, 2, 3, 4, 4);
        due("none", x.move(0, 5, 1, 3, 0), 0);
        due("all", x.move(1, 0, 0, 2, 3), 3);
        holds(x, 0, 1, 2, 6, 4, 5);
        sheetOf(x, 2, 16, 9);
        refuse("no such sheet", x, BEYOND, o -> o.move(4, 0, 3, 0, 1));
        refuse("no such sheet", x, BEYOND, o -> o.move(3, 0, -1, 0, 1));
        refuse("missing", x, NONE, o -> o.move(3, 0, 2, 0, 1));
        refuse("missing", x, NONE, o -> o.move(0, -1, 3, 0, 1));
        refuse("unlike bits", x, KIND, o -> o.move(0, -1, 2, 0, 1));
        refuse("unlike bits", x, KIND, o -> o.move(2, 0, 0, 0, 1));
        int[][] bad = {{0, 0, -1}, {-1, 0, 1}, {0, -1, 1}, {5, 0, 1}, {0, 3, 1}, {4, 0, 2}, {0, 2, 2}, {6, 0, 0},
            {0, 4, 0}, {MAX, 0, 1}, {1, 0, MAX}, {0, 0, 6}, {0, MAX, MAX}, {MIN, 0, 1}};
        for (int[] b : bad) {
            refuse("not there", x, BEYOND, o -> o.move(0, b[0], 1, b[1], b[2]));
        }
        holds(x, 0, 1, 2, 6, 4, 5);
        holds(x, 1, 6, 4, 5);
        holds(x, 2, 9);
    }

    private static void promise31() {
        part = "promise 31";
        Recorded x = made(2, 2, 0);
        sheetOf(x, 0, 16, 0, 99, 100, 5);
        due("up to 100", x.whites(0), 2);
        due("WHITE", x.ofCell(1, 1), 99);
        due("WHITE", x.ofCell(2, 1), 0);
        due("WHITE", x.ofCell(3, 1), 0);
        sheetOf(x, 0, 32, 8, -1, 5);
        due("up to -1", x.whites(0), 1);
        due("WHITE", x.ofCell(0, 1), 8);
        due("WHITE stays", x.ofCell(1, 1), 99);
        sheetOf(x, 0, 8, 1, 2, 3, 4, 5);
        due("no cell more", x.whites(0), 4);
        due("WHITE", x.ofCell(3, 1), 4);
        sheetOf(x, 0, 8);
        due("none", x.whites(0), 0);
        due("no ERROR", x.told(1) + x.told(2), 0);
        refuse("no such sheet", x, BEYOND, o -> o.whites(4));
        refuse("no such sheet", x, BEYOND, o -> o.whites(-1));
        refuse("missing", x, NONE, o -> o.whites(1));
    }

    private static void promise32() {
        part = "promise 32";
        Recorded x = made(2, 2, 0);
        x.roll(0, 1, 0);
        sheetOf(x, 0, 16, -1, 2, -1, 4);
        due("all", x.judge(0), -1);
        x.put(0, 2, 3);
        due("the first", x.judge(0), 2);
        x.put(0, 0, 0);
        due("the first", x.judge(0), 0);
        sheetOf(x, 0, 16, -1, 2, -1);
        due("one lacks", x.judge(0), 3);
        sheetOf(x, 0, 16, -1, 2, -1, 4, -1);
        due("one too many", x.judge(0), 4);
        sheetOf(x, 0, 16, -1, 2, -1, 5, -1);
        due("the first of two", x.judge(0), 3);
        sheetOf(x, 0, 16);
        due("all lack", x.judge(0), 0);
        refuse("no such sheet", x, BEYOND, o -> o.judge(4));
        refuse("no such sheet", x, BEYOND, o -> o.judge(-1));
        refuse("missing", x, NONE, o -> o.judge(1));
    }

    private static void promise33And34() {
        part = "promises 33, 34";
        Recorded x = made(2, 3, 13, 27);
        refuse("none", x, NONE, Recorded::restore);
        x.roll(0, 1, 1);
        x.minutes(9);
        x.roll(1, 2, 0);
        textOf(x, 0, "s+h");
        textOf(x, 1, "w*2+r");
        feedBytes(x, "7+");
        x.tell(4);
        x.tell(5);
        x.set(0, 6);
        x.set(1, 3);
        x.set(2, 8);
        x.set(3, 9);
        x.seed(77);
        x.voice(0, 1, 3);
        sheetOf(x, 0, 8, 1, 2);
        String was = Views.of(Views.PLAIN, x);
        int minute = x.count(2);
        due("image", x.image(), 1);
        x.ceiling(3, 2);
        x.hand(50);
        x.become(0, 60);
        feedBytes(x, "1");
        x.text(0);
        textOf(x, 1, "50");
        x.check();
        x.set(0, 1);
        x.set(1, 1);
        x.set(2, 1);
        x.set(3, 1);
        x.days(5);
        sheetOf(x, 0, 8, 3, 4);
        x.trace(99);
        int none = x.told(2);
        due("restore", x.restore(), minute);
        due("all is as it was (1)", Views.of(Views.PLAIN, x).equals(was) ? 1 : 0, 1);
        due("told() stays", x.told(2), none);
        due("the sheet stays", x.whites(0), 2);
        due("the sheet stays", x.ofCell(0, 1), 3);
        x.voice(1, 3, 3);
        int bodies = x.count(10);
        int first = x.trace(0);
        x.minutes(2);
        due("restore, again", x.restore(), minute);
        due("the trace stays", x.count(10), bodies);
        due("the trace stays", x.trace(0), first);
        feedBytes(x, "1");
        due("the tape is as it was", x.text(0), 1);
        due("and reads so", x.law(0, 0, 0, 0), 8);
        x.tell(6);
        due("numbers wait as they did", x.count(9), 3);
        due("image, again", x.image(), 2);
        x.seed(5);
        x.restore();
        due("in place of the one ahead", x.count(9), 3);
        due("z", x.count(11), 77);
        due("how often isn't kept", x.image(), 3);
        waitingIsKept();
    }

    private static void waitingIsKept() {
        Recorded x = made(1, 2, 0);
        x.tell(0);
        x.tell(0);
        x.tell(9);
        x.image();
        due("the third", x.check(), 3);
        due("none", x.check(), 0);
        x.restore();
        due("the third", x.check(), 3);
    }

    private static void promise35() {
        part = "promise 35";
        Recorded x = new Recorded();
        for (int i = 1; i <= 20; i++) {
            due("tell", x.tell(i % 2 == 0 ? MIN : MAX), i);
        }
        refuse("tell", x, FULL, o -> o.tell(0));
        x.check();
        due("tell", x.tell(0), 1);
    }

    private static void promise36() {
        part = "promise 36";
        Recorded x = made(1, 3, 0, 49);
        x.set(0, 7);
        // WHENS 2, 4, 6; then 8 for strip 0: 4 behind strip 1, DRIES 3.
        int[] seen = {0, 0, 0, 1, 1, 0, 1, 1, 0};
        for (int v : seen) {
            x.tell(v);
        }
        due("all so", x.check(), 0);
        due("none waits", x.count(9), 0);
        due("nothing is done", x.count(2) + x.count(3), 0);
        for (int wrong = 0; wrong < seen.length; wrong++) {
            for (int i = 0; i < seen.length; i++) {
                x.tell(seen[i] + (i >= wrong ? 1 : 0));
            }
            due("the first wrong one", x.check(), 1 + wrong);
            due("none waits", x.count(9), 0);
        }
        due("none waits", x.check(), 0);
        x.roll(1, 1, 0);
        x.minutes(50);
        x.tell(1);
        due("from the ceiling as it is", x.check(), 0);
        Recorded y = new Recorded();
        due("no hand, no number", y.check(), 0);
        y.tell(0);
        due("no hand", y.check(), 1);
        due("none waits", y.count(9), 0);
        due("no ERROR", y.told(1) + y.told(2) + y.told(3), 0);
    }

    private static void promise37() {
        part = "promise 37";
        Recorded x = made(2, 3, 30, 0);
        x.roll(0, 0, 0);
        x.minutes(4);
        x.set(2, 5);
        x.set(3, 6);
        x.set(0, 7);
        x.feed(0L, 8);
        x.tell(1);
        x.tell(1);
        x.voice(1, 3, 0);
        x.seed(BEYOND);
        int[] due = {6, 2, 5, 2, 16, 5, 6, 7, 8, 2, 4, BEYOND};
        for (int i = 0; i < due.length; i++) {
            due("count(" + i + ")", x.count(i), due[i]);
        }
        due("any number is no ERROR", x.told(1), 0);
        refuse("count(12)", x, BEYOND, o -> o.count(12));
        refuse("count(-1)", x, BEYOND, o -> o.count(-1));
        refuse("count", x, BEYOND, o -> o.count(MIN));
    }

    private static void promise38() {
        part = "promise 38";
        Recorded x = new Recorded();
        x.ceiling(0, 0);
        x.trace(0);
        x.trace(0);
        x.days(1);
        x.days(1);
        x.days(1);
        for (int i = 0; i < 24; i++) {
            x.tell(0);
        }
        x.sheet(0, 8, 1);
        x.sheet(1, 16, 1);
        for (int i = 0; i < 5; i++) {
            x.move(0, 0, 1, 0, 1);
        }
        for (int k = 1; k <= 5; k++) {
            due("told(" + k + ")", x.told(k), k);
        }
        due("told(0)", x.told(0), BEYOND);
        due("told(6)", x.told(6), BEYOND);
        due("told(-1)", x.told(-1), BEYOND);
        due("told", x.told(MAX), BEYOND);
        due("counted, too", x.told(1), 5);
        x.image();
        x.restore();
        due("not of an image", x.told(1), 5);
    }

    public static void main(String[] args) {
        promise1();
        promise2();
        promise3();
        promise4();
        promise5();
        promise6();
        promise7();
        promise8();
        promise9();
        promise10();
        promise11();
        promise12();
        promise13();
        promise14();
        promise15();
        promise16();
        promise17();
        promise18();
        promise19();
        promise20();
        promise21();
        promise22();
        promise23();
        promise24();
        promise25();
        promise26();
        promise27();
        promise28();
        promise29();
        promise30();
        promise31();
        promise32();
        promise33And34();
        promise35();
        promise36();
        promise37();
        promise38();
        end();
    }
}
