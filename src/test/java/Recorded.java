import java.util.ArrayList;
import java.util.List;
import java.util.function.ToIntFunction;

/** An object of the class with all that it was asked: so that another one can be brought to where it stands. */
final class Recorded {
    /** Behind as many the document promises nothing more of an object. */
    static final int MOST_CALLS = 512;

    private final OneGoCeiling real = new OneGoCeiling();
    private final List<ToIntFunction<OneGoCeiling>> calls = new ArrayList<>();

    private int ask(ToIntFunction<OneGoCeiling> call) {
        if (calls.size() == MOST_CALLS) {
            throw new IllegalStateException("the document promises nothing of call " + (MOST_CALLS + 1));
        }
        calls.add(call);
        return call.applyAsInt(real);
    }

    /** A new one that was asked the same. */
    Recorded again() {
        Recorded other = new Recorded();
        calls.forEach(other::ask);
        return other;
    }

    int calls() {
        return calls.size();
    }

    int ceiling(int rows, int strips) {
        return ask(o -> o.ceiling(rows, strips));
    }

    int set(int what, int v) {
        return ask(o -> o.set(what, v));
    }

    int ofCell(int cell, int what) {
        return ask(o -> o.ofCell(cell, what));
    }

    int hand(int km) {
        return ask(o -> o.hand(km));
    }

    int ofHand(int hand, int what) {
        return ask(o -> o.ofHand(hand, what));
    }

    int become(int hand, int km) {
        return ask(o -> o.become(hand, km));
    }

    int as(int hand, int kind) {
        return ask(o -> o.as(hand, kind));
    }

    int feed(long word, int n) {
        return ask(o -> o.feed(word, n));
    }

    int text(int use) {
        return ask(o -> o.text(use));
    }

    int law(int use, int a, int b, int c) {
        return ask(o -> o.law(use, a, b, c));
    }

    int roll(int hand, int strip, int up) {
        return ask(o -> o.roll(hand, strip, up));
    }

    int minutes(int n) {
        return ask(o -> o.minutes(n));
    }

    int days(int n) {
        return ask(o -> o.days(n));
    }

    int seams(int what) {
        return ask(o -> o.seams(what));
    }

    int done(int hand, int sheet) {
        return ask(o -> o.done(hand, sheet));
    }

    int order(int hand, int what) {
        return ask(o -> o.order(hand, what));
    }

    int clean(int hand, int what) {
        return ask(o -> o.clean(hand, what));
    }

    int called(int hand, int s, int n) {
        return ask(o -> o.called(hand, s, n));
    }

    int worst(int hand, int n, int what) {
        return ask(o -> o.worst(hand, n, what));
    }

    int howLong(int hand, int s) {
        return ask(o -> o.howLong(hand, s));
    }

    int cans(int hand) {
        return ask(o -> o.cans(hand));
    }

    int whose(int hand, int strip, int sheet) {
        return ask(o -> o.whose(hand, strip, sheet));
    }

    int odds(int hand, int n, int v, int part) {
        return ask(o -> o.odds(hand, n, v, part));
    }

    int seed(int v) {
        return ask(o -> o.seed(v));
    }

    int voice(int hand, int act, int x) {
        return ask(o -> o.voice(hand, act, x));
    }

    int trace(int i) {
        return ask(o -> o.trace(i));
    }

    int sheet(int sheet, int bits, int n) {
        return ask(o -> o.sheet(sheet, bits, n));
    }

    int put(int sheet, int i, int v) {
        return ask(o -> o.put(sheet, i, v));
    }

    int move(int sheet, int i, int other, int j, int n) {
        return ask(o -> o.move(sheet, i, other, j, n));
    }

    int whites(int sheet) {
        return ask(o -> o.whites(sheet));
    }

    int judge(int sheet) {
        return ask(o -> o.judge(sheet));
    }

    int image() {
        return ask(OneGoCeiling::image);
    }

    int restore() {
        return ask(OneGoCeiling::restore);
    }

    int tell(int v) {
        return ask(o -> o.tell(v));
    }

    int check() {
        return ask(OneGoCeiling::check);
    }

    int count(int what) {
        return ask(o -> o.count(what));
    }

    int told(int k) {
        return ask(o -> o.told(k));
    }
}
