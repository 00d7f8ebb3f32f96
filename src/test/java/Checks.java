import java.io.IOException;
import java.io.UncheckedIOException;
import java.nio.file.Files;
import java.nio.file.Path;
import java.util.function.ToIntFunction;

/** What the tests of the class have in common. */
abstract class Checks {
    static final int LOW = -1000000000;
    static final int BEYOND = LOW - 1;
    static final int NONE = LOW - 2;
    static final int STATE = LOW - 3;
    static final int FULL = LOW - 4;
    static final int KIND = LOW - 5;
    static final int MIN = Integer.MIN_VALUE;
    static final int MAX = Integer.MAX_VALUE;

    // The tests take seconds: behind this long a call has failed to end.
    private static final int MOST_SECONDS = 300;
    private static final String DOCUMENT = document();

    static int wrong = 0;
    static int asked = 0;
    static String part = "";

    static {
        Thread watch = new Thread(Checks::watch);
        watch.setDaemon(true);
        watch.start();
    }

    private static void watch() {
        try {
            Thread.sleep(1000L * MOST_SECONDS);
        } catch (InterruptedException e) {
            return;
        }
        System.out.println(part + ": a call doesn't end");
        Runtime.getRuntime().halt(1);
    }

    /** A call with one number that is told from outside. */
    interface Asked {
        int of(Recorded x, int v);
    }

    /** What follows tests a sentence of the document, that must stand there as it is quoted. */
    static void sentence(String quoted) {
        part = quoted;
        due("the document says so (1)", DOCUMENT.contains(quoted) ? 1 : 0, 1);
    }

    private static String document() {
        try {
            return Files.readString(Path.of("../shared/DOC.md")).replaceAll("\\s+", " ");
        } catch (IOException e) {
            throw new UncheckedIOException(e);
        }
    }

    static void due(String what, int got, int want) {
        asked++;
        if (got != want) {
            wrong++;
            System.out.println(part + ": " + what + " is " + got + ", due is " + want);
        }
    }

    /** A call answers an ERROR, and behind it all is as without it, but for what told() tells. */
    static void refuse(String what, Recorded x, int error, ToIntFunction<Recorded> call) {
        Recorded refused = x.again();
        Recorded left = x.again();
        due(what, call.applyAsInt(refused), error);
        for (int k = 1; k <= 5; k++) {
            due(what + ", told(" + k + ")", refused.told(k), left.told(k) + (LOW - k == error ? 1 : 0));
        }
        for (int view = 0; view < Views.COUNT; view++) {
            Recorded spoilt = x.again();
            call.applyAsInt(spoilt);
            String seen = Views.of(view, spoilt);
            due(what + " changes nothing (1), seen by view " + view, seen.equals(Views.of(view, x.again())) ? 1 : 0, 1);
        }
    }

    static void take(String what, Recorded x, ToIntFunction<Recorded> call) {
        Recorded taken = x.again();
        due(what + " is no ERROR (1)", call.applyAsInt(taken) > BEYOND ? 1 : 0, 1);
        for (int k = 1; k <= 5; k++) {
            due(what + ", told(" + k + ")", taken.told(k), x.again().told(k));
        }
    }

    /** The values from the least to the most are taken; those just outside, and the furthest, are refused. */
    static void bound(String what, Recorded x, int error, int least, int most, Asked call) {
        take(what + " of " + least, x, o -> call.of(o, least));
        take(what + " of " + most, x, o -> call.of(o, most));
        refuse(what + " of " + (least - 1), x, error, o -> call.of(o, least - 1));
        refuse(what + " of " + (most + 1), x, error, o -> call.of(o, most + 1));
        refuse(what + " of the least int", x, error, o -> call.of(o, MIN));
        refuse(what + " of the greatest int", x, error, o -> call.of(o, MAX));
    }

    static Recorded made(int rows, int strips, int... hands) {
        Recorded x = new Recorded();
        x.ceiling(rows, strips);
        for (int km : hands) {
            x.hand(km);
        }
        return x;
    }

    /**
     * An object with something of all that there is, which a refused call could spoil: 3 ROWS, 4 STRIPS,
     * five hands; sheet 0 tells an order, sheet 1 when the first hand would do a strip, sheet 3 is missing.
     */
    static Recorded rich() {
        Recorded x = made(3, 4, 4, 15, 26, 37, 48);
        textOf(x, 0, "r+s*9+h*9");
        textOf(x, 1, "w*3+r+1");
        x.roll(0, 0, 0);
        x.roll(2, 2, 1);
        x.minutes(7);
        x.tell(0);
        x.tell(3);
        feedBytes(x, "(s");
        x.image();
        x.set(3, 12);
        x.set(2, 40);
        x.roll(1, 1, 0);
        x.set(1, 90);
        x.set(0, 4);
        feedBytes(x, "+7)");
        x.tell(8);
        x.seed(99);
        x.voice(4, 3, 5);
        sheetOf(x, 0, 8, 3, 1, 0, 2);
        int minute = x.count(2);
        sheetOf(x, 1, 32, minute + 2, minute + 4, minute + 7);
        sheetOf(x, 2, 8, 7, 9, 11, 13, 15);
        return x;
    }

    static void waitUntil(Recorded x, int minute) {
        for (int rest = minute - x.count(2); rest > 0; rest -= 500) {
            x.minutes(Math.min(500, rest));
        }
    }

    static void feedBytes(Recorded x, String s) {
        for (int i = 0; i < s.length(); i += 8) {
            int n = Math.min(8, s.length() - i);
            long word = 0;
            for (int k = n - 1; k >= 0; k--) {
                word = word << 8 | s.charAt(i + k);
            }
            x.feed(word, n);
        }
    }

    static int textOf(Recorded x, int use, String s) {
        feedBytes(x, s);
        return x.text(use);
    }

    static void sheetOf(Recorded x, int sheet, int bits, int... numbers) {
        x.sheet(sheet, bits, numbers.length);
        for (int i = 0; i < numbers.length; i++) {
            x.put(sheet, i, numbers[i]);
        }
    }

    static void end() {
        System.out.println(asked + " answers asked, " + wrong + " not as due");
        if (wrong != 0) {
            System.exit(1);
        }
    }
}
