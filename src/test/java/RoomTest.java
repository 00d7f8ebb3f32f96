import com.sun.management.ThreadMXBean;
import java.lang.management.ManagementFactory;
import java.util.function.ToIntFunction;

/** All calls of one run live in one room: an object takes little of it, and its calls, the dearest too, none. */
public final class RoomTest extends Checks {
    private static final int BYTES_OF_AN_OBJECT = 64 * 1024;
    private static final ThreadMXBean THREADS = (ThreadMXBean) ManagementFactory.getThreadMXBean();

    private static long taken() {
        return THREADS.getCurrentThreadAllocatedBytes();
    }

    /** The widest ceiling, full of all that takes time to think of: no order is clean, no text is short. */
    private static OneGoCeiling full() {
        OneGoCeiling x = new OneGoCeiling();
        x.ceiling(6, 6);
        for (int hand = 0; hand < 6; hand++) {
            x.hand(11 * hand);
        }
        feed(x);
        x.text(0);
        feed(x);
        x.text(1);
        feed(x);
        x.sheet(0, 8, 6);
        for (int i = 0; i < 6; i++) {
            x.put(0, i, 5 - i);
        }
        x.sheet(1, 32, 40);
        x.image();
        return x;
    }

    private static void feed(OneGoCeiling x) {
        String text = "!(!(!(r+s=1)))+((r+1)*(s+2)+r*s+((r&s)|(1<r)))";
        for (int i = 0; i < text.length(); i++) {
            x.feed(text.charAt(i), 1);
        }
    }

    /** The least of some rounds: in the first ones the machine itself takes a little. */
    private static void takesNone(String what, ToIntFunction<OneGoCeiling> call) {
        OneGoCeiling x = full();
        long least = MAX;
        for (int round = 0; round < 3; round++) {
            long before = taken();
            for (int i = 0; i < 30; i++) {
                call.applyAsInt(x);
            }
            least = Math.min(least, taken() - before);
        }
        due(what + " takes as many bytes", (int) least, 0);
    }

    public static void main(String[] args) {
        part = "room";
        full();
        taken();
        long before = taken();
        OneGoCeiling made = new OneGoCeiling();
        due("bytes of a new object are few (1)", taken() - before <= BYTES_OF_AN_OBJECT ? 1 : 0, 1);
        due("and it is one", made.count(0), 16);
        takesNone("order", x -> x.order(4, -1));
        takesNone("clean", x -> x.clean(4, 1));
        takesNone("called", x -> x.called(4, 5, 500));
        takesNone("worst", x -> x.worst(4, 500, 1));
        takesNone("howLong", x -> x.howLong(4, 5));
        takesNone("odds", x -> x.odds(4, 500, 500, 1));
        takesNone("cans", x -> x.cans(3));
        takesNone("whose", x -> x.whose(3, 5, 0));
        takesNone("done", x -> x.done(4, 0));
        takesNone("days", x -> x.days(30));
        takesNone("roll", x -> x.roll(4, 5, 1));
        takesNone("seams", x -> x.seams(1));
        takesNone("voice", x -> x.voice(4, 3, 9));
        takesNone("text", x -> x.text(0) + x.restore());
        takesNone("image", OneGoCeiling::image);
        takesNone("check", x -> x.tell(0) + x.tell(0) + x.check());
        takesNone("sheet", x -> x.sheet(2, 16, 40) + x.move(1, 0, 1, 1, 39));
        takesNone("whites", x -> x.whites(1) + x.judge(1));
        takesNone("hand", x -> x.hand(9) + x.become(5, 69) + x.as(5, 0));
        takesNone("ceiling", x -> x.ceiling(6, 6));
        end();
    }
}
