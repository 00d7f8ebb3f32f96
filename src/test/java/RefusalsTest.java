/** The ERRORS: each number, each act of a hand, and where an act has several, the order in which they are asked. */
public final class RefusalsTest extends Checks {
    private static void errorNumbers() {
        sentence("LOW is -1000000000; LOW - 1 BEYOND, LOW - 2 NONE, LOW - 3 STATE, LOW - 4 FULL, LOW - 5 KIND.");
        Recorded x = made(1, 1, 20);
        due("BEYOND", x.set(-1, 0), -1000000001);
        due("NONE", x.trace(0), -1000000002);
        due("STATE", x.sheet(0, 8, -1), -1000000003);
        due("KIND", x.as(0, 1), -1000000005);
        for (int i = 0; i < 20; i++) {
            x.tell(0);
        }
        due("FULL", x.tell(0), -1000000004);
        for (int k = 1; k <= 5; k++) {
            due("told", x.told(k), 1);
        }
    }

    private static final String[] ACTS_OF_HANDS = {"ofHand", "become", "as", "roll", "done", "order", "clean", "called",
        "worst", "howLong", "cans", "whose", "odds", "voice"};

    private static int byHand(String act, Recorded x, int hand) {
        switch (act) {
            case "ofHand": return x.ofHand(hand, 0);
            case "become": return x.become(hand, 33);
            case "as": return x.as(hand, 0);
            case "roll": return x.roll(hand, 2, 1);
            case "done": return x.done(hand, 0);
            case "order": return x.order(hand, 0);
            case "clean": return x.clean(hand, 0);
            case "called": return x.called(hand, 1, 9);
            case "worst": return x.worst(hand, 9, 1);
            case "howLong": return x.howLong(hand, 3);
            case "cans": return x.cans(hand);
            case "whose": return x.whose(hand, 1, 1);
            case "odds": return x.odds(hand, 9, 9, 0);
            default: return x.voice(hand, 3, 5);
        }
    }

    private static void hands() {
        sentence("HANDS 0, 1, .. (at most 6)");
        for (String act : ACTS_OF_HANDS) {
            bound(act + " by one of five", rich(), BEYOND, 0, 4, (o, v) -> byHand(act, o, v));
            Recorded six = rich();
            six.hand(0);
            bound(act + " by one of six", six, BEYOND, 0, 5, (o, v) -> byHand(act, o, v));
            Recorded none = new Recorded();
            sheetOf(none, 0, 8, 0, 1, 2, 3);
            sheetOf(none, 1, 8, 2, 4, 7, 9);
            refuse(act + " by none", none, BEYOND, o -> byHand(act, o, 0));
            none.hand(0);
            bound(act + " by the only one", none, BEYOND, 0, 0, (o, v) -> byHand(act, o, v));
        }
    }

    private static void inTheirOrder() {
        sentence("Each act tells its ERRORS in the order in which they are asked");
        Recorded x = rich();
        refuse("done: hand, ahead of NONE", x, BEYOND, o -> o.done(5, 3));
        refuse("done: sheet, ahead of STATE", x, BEYOND, o -> o.done(0, 4));
        refuse("done: hand, ahead of STATE", x, BEYOND, o -> o.done(-1, 2));
        refuse("done: NONE, ahead of STATE", x, NONE, o -> o.done(0, 3));
        refuse("done: STATE", x, STATE, o -> o.done(0, 2));
        refuse("as: hand, ahead of KIND", x, BEYOND, o -> o.as(5, 6));
        refuse("as: kind, ahead of KIND", x, BEYOND, o -> o.as(0, 7));
        refuse("as: KIND", x, KIND, o -> o.as(0, 6));
        refuse("whose: sheet, ahead of NONE", x, BEYOND, o -> o.whose(0, 0, 4));
        refuse("whose: hand, ahead of NONE", x, BEYOND, o -> o.whose(5, 0, 3));
        refuse("whose: strip, ahead of NONE", x, BEYOND, o -> o.whose(0, 4, 3));
        refuse("whose: strip below, ahead of NONE", x, BEYOND, o -> o.whose(0, -1, 2));
        refuse("whose: missing", x, NONE, o -> o.whose(0, 0, 3));
        refuse("whose: not as many numbers", x, NONE, o -> o.whose(0, 0, 2));
        refuse("sheet: no such, ahead of STATE", x, BEYOND, o -> o.sheet(4, 8, -1));
        refuse("sheet: bits, ahead of STATE", x, BEYOND, o -> o.sheet(0, 9, -1));
        refuse("sheet: STATE", x, STATE, o -> o.sheet(0, 8, -1));
        refuse("sheet: too many", x, BEYOND, o -> o.sheet(0, 8, 41));
        refuse("put: no such sheet, ahead of NONE", x, BEYOND, o -> o.put(4, 9, 0));
        refuse("put: NONE, ahead of BEYOND", x, NONE, o -> o.put(3, 9, 0));
        refuse("put: no such number", x, BEYOND, o -> o.put(0, 4, 0));
        refuse("move: no such sheet, ahead of NONE", x, BEYOND, o -> o.move(4, 9, 3, 9, 9));
        refuse("move: to no such sheet, ahead of NONE", x, BEYOND, o -> o.move(3, 9, 4, 9, 9));
        refuse("move: NONE, ahead of BEYOND", x, NONE, o -> o.move(3, 9, 0, 9, 9));
        refuse("move: KIND, ahead of BEYOND", x, KIND, o -> o.move(0, 9, 1, 9, 9));
        refuse("move: they don't stand there", x, BEYOND, o -> o.move(0, 9, 2, 9, 9));
        refuse("whites: no such sheet", x, BEYOND, o -> o.whites(4));
        refuse("whites: NONE", x, NONE, o -> o.whites(3));
        refuse("judge: no such sheet", x, BEYOND, o -> o.judge(4));
        refuse("judge: NONE", x, NONE, o -> o.judge(3));
        refuse("voice: act", x, BEYOND, o -> o.voice(0, 4, 0));
        refuse("voice: hand", x, BEYOND, o -> o.voice(5, 0, 0));
        refuse("trace: NONE", x, NONE, o -> o.trace(9));
        refuse("feed: n", x, BEYOND, o -> o.feed(0L, 9));
    }

    private static void lateAndFull() {
        sentence("one that answers an ERROR changes nothing but what told() tells.");
        Recorded full = rich();
        full.hand(5);
        while (full.count(9) < 20) {
            full.tell(1);
        }
        while (full.count(8) < 50) {
            full.feed('1', 1);
        }
        waitUntil(full, 9999);
        refuse("hand: km, ahead of FULL", full, BEYOND, o -> o.hand(70));
        refuse("hand: FULL", full, FULL, o -> o.hand(0));
        refuse("feed: n, ahead of FULL", full, BEYOND, o -> o.feed(0L, 0));
        refuse("feed: FULL", full, FULL, o -> o.feed(0L, 1));
        refuse("tell: FULL", full, FULL, o -> o.tell(1));
        refuse("text: no such USE", full, BEYOND, o -> o.text(2));
        refuse("roll: hand, ahead of STATE", full, BEYOND, o -> o.roll(6, 0, 0));
        refuse("roll: strip, ahead of STATE", full, BEYOND, o -> o.roll(0, 4, 0));
        refuse("roll: way, ahead of STATE", full, BEYOND, o -> o.roll(0, 0, -1));
        refuse("roll: STATE", full, STATE, o -> o.roll(0, 0, 0));
        refuse("minutes: n, ahead of STATE", full, BEYOND, o -> o.minutes(0));
        refuse("minutes: STATE", full, STATE, o -> o.minutes(1));
        refuse("days: n", full, BEYOND, o -> o.days(31));
        refuse("ceiling", full, BEYOND, o -> o.ceiling(7, 6));
        refuse("set", full, BEYOND, o -> o.set(1, 100));
        refuse("ofCell", full, BEYOND, o -> o.ofCell(12, 0));
        refuse("seams", full, BEYOND, o -> o.seams(2));
        refuse("law", full, BEYOND, o -> o.law(2, 0, 0, 0));
        refuse("count", full, BEYOND, o -> o.count(12));
        refuse("told", full, BEYOND, o -> o.told(6));
        Recorded none = new Recorded();
        refuse("days: n, ahead of STATE", none, BEYOND, o -> o.days(0));
        refuse("days: STATE", none, STATE, o -> o.days(30));
        refuse("restore: NONE", none, NONE, Recorded::restore);
        Recorded one = rich();
        one.ceiling(2, 1);
        refuse("worst: hand, ahead of NONE", one, BEYOND, o -> o.worst(5, 0, 0));
        refuse("worst: n, ahead of NONE", one, BEYOND, o -> o.worst(0, 501, 0));
        refuse("worst: what, ahead of NONE", one, BEYOND, o -> o.worst(0, 0, 2));
        refuse("worst: NONE", one, NONE, o -> o.worst(0, 0, 0));
        Recorded unclean = rich();
        unclean.set(1, 1);
        unclean.set(3, 1);
        refuse("clean: hand, ahead of NONE", unclean, BEYOND, o -> o.clean(5, 0));
        refuse("clean: what, ahead of NONE", unclean, BEYOND, o -> o.clean(0, -1));
        refuse("clean: NONE", unclean, NONE, o -> o.clean(0, 1));
    }

    public static void main(String[] args) {
        errorNumbers();
        hands();
        inTheirOrder();
        lateAndFull();
        end();
    }
}
