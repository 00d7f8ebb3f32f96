import java.lang.reflect.Method;
import java.util.ArrayList;
import java.util.Arrays;
import java.util.Comparator;
import java.util.List;
import java.util.Random;

/** Long runs of calls by fixed seeds, each call answered by the class and by PlainModel alike. */
public final class RandomCallsTest {
    private static final int CALLS = Recorded.MOST_CALLS;
    private static final String[] PIECES = {
        "r", "s", "h", "w", "1", "2", "7", "12", "345", "9999", "0", "+", "-", "*", "/", "%", "<", "=", ">",
        "&", "|", "!", "(", ")", "r+s", "10-h", "1+w", "w*3", "(s%2)*9+1", "h<5", "r=s", "!!", "((", "))", "x", " "
    };

    private final Random random;
    private final OneGoCeiling real = new OneGoCeiling();
    private final PlainModel plain = new PlainModel();
    private final List<String> calls = new ArrayList<>();

    private RandomCallsTest(long seed) {
        random = new Random(seed);
    }

    public static void main(String[] args) throws Exception {
        int runs = args.length > 0 ? Integer.parseInt(args[0]) : 400;
        long first = args.length > 1 ? Long.parseLong(args[1]) : 1;
        Method[] acts = Arrays.stream(OneGoCeiling.class.getDeclaredMethods())
            .filter(m -> java.lang.reflect.Modifier.isPublic(m.getModifiers()))
            .sorted(Comparator.comparing(Method::getName)).toArray(Method[]::new);
        int wrong = 0;
        for (long seed = first; seed < first + runs && wrong < 5; seed++) {
            if (!new RandomCallsTest(seed).run(acts)) {
                System.out.println("seed " + seed + " went wrong");
                wrong++;
            }
        }
        System.out.println(wrong == 0 ? runs + " random runs are alike" : wrong + " random runs differ");
        if (wrong != 0) {
            System.exit(1);
        }
    }

    private boolean run(Method[] acts) throws Exception {
        boolean wild = random.nextInt(10) == 0;
        for (int i = 0; i < 4; i++) {
            if (!call(act(acts, "hand"), new Object[] {random.nextInt(70)})) {
                return false;
            }
        }
        while (calls.size() < CALLS) {
            Method act = acts[random.nextInt(acts.length)];
            boolean isDear = act.getName().equals("clean") || act.getName().equals("order")
                || act.getName().equals("howLong");
            if (isDear && plain.count(0) > 16 && random.nextInt(4) != 0) {
                continue;
            }
            if (act.getName().equals("feed") && random.nextBoolean()) {
                if (!feedText(acts)) {
                    return false;
                }
            } else if (random.nextInt(25) == 0) {
                if (!purposeful(acts)) {
                    return false;
                }
            } else if (!call(act, arguments(act, wild))) {
                return false;
            }
        }
        return true;
    }

    private static Method act(Method[] acts, String name) {
        for (Method m : acts) {
            if (m.getName().equals(name)) {
                return m;
            }
        }
        throw new IllegalStateException(name);
    }

    private boolean feedText(Method[] acts) throws Exception {
        StringBuilder b = new StringBuilder();
        int pieces = 1 + random.nextInt(12);
        boolean operand = true;
        for (int i = 0; i < pieces; i++) {
            if (random.nextInt(6) == 0) {
                b.append(PIECES[random.nextInt(PIECES.length)]);
            } else if (operand) {
                b.append(new String[] {"r", "s", "h", "w", "3", "10", "!r", "(s+1)", "20"}[random.nextInt(9)]);
                operand = false;
            } else {
                b.append("+-*/%<=>&|".charAt(random.nextInt(10)));
                operand = true;
            }
        }
        if (operand && random.nextInt(5) != 0) {
            b.append('4');
        }
        for (int i = 0; i < b.length(); i += 8) {
            int n = Math.min(8, b.length() - i);
            long word = 0;
            for (int k = n - 1; k >= 0; k--) {
                word = word << 8 | b.charAt(i + k);
            }
            if (!call(act(acts, "feed"), new Object[] {word, n})) {
                return false;
            }
        }
        return call(act(acts, "text"), new Object[] {random.nextInt(2)});
    }

    /** What random numbers hardly ever meet: sheets and numbers told that are so. */
    private boolean purposeful(Method[] acts) throws Exception {
        int strips = plain.strips();
        int hand = random.nextInt(4);
        switch (random.nextInt(4)) {
            case 0:
                List<Integer> order = new ArrayList<>();
                for (int s = 0; s < strips; s++) {
                    order.add(random.nextInt(order.size() + 1), s);
                }
                return fillSheet(acts, order) && call(act(acts, "done"), new Object[] {hand, 1});
            case 1:
                int strip = random.nextInt(strips);
                List<Integer> whens = new ArrayList<>();
                int m = plain.ofHand(hand, 1);
                for (int when : plain.whensOf(random.nextInt(7), m)) {
                    whens.add(when + (random.nextInt(30) == 0 ? 1 : 0));
                }
                return fillSheet(acts, whens) && call(act(acts, "whose"), new Object[] {hand, strip, 1});
            case 2:
                List<Integer> all = new ArrayList<>();
                for (int cell = 0; cell < plain.count(0); cell++) {
                    all.add(random.nextInt(60) == 0 ? 3 : plain.ofCell(cell, 0));
                }
                return fillSheet(acts, all) && call(act(acts, "judge"), new Object[] {1})
                    && call(act(acts, "whites"), new Object[] {1});
            default:
                return call(act(acts, "check"), new Object[0]) && tellWhatIsSeen(acts, strips);
        }
    }

    private boolean fillSheet(Method[] acts, List<Integer> numbers) throws Exception {
        boolean alike = call(act(acts, "sheet"), new Object[] {1, 32, numbers.size()});
        for (int i = 0; i < numbers.size() && alike; i++) {
            alike = call(act(acts, "put"), new Object[] {1, i, numbers.get(i)});
        }
        return alike;
    }

    private boolean tellWhatIsSeen(Method[] acts, int strips) throws Exception {
        if (plain.count(2) > 9000) {
            return true;
        }
        int n = 1 + random.nextInt(8);
        boolean alike = call(act(acts, "image"), new Object[0]);
        List<Integer> seen = new ArrayList<>();
        for (int i = 0; i < n && alike; i++) {
            alike = call(act(acts, "roll"), new Object[] {0, i % strips, 0});
            seen.add(plain.seams(1) + (random.nextInt(40) == 0 ? 1 : 0));
        }
        alike = alike && call(act(acts, "restore"), new Object[0]);
        for (int i = 0; i < n && alike; i++) {
            alike = call(act(acts, "tell"), new Object[] {seen.get(i)});
        }
        return alike && call(act(acts, "check"), new Object[0]);
    }

    private Object[] arguments(Method act, boolean wild) {
        Class<?>[] types = act.getParameterTypes();
        Object[] made = new Object[types.length];
        for (int i = 0; i < made.length; i++) {
            made[i] = types[i] == long.class ? (Object) random.nextLong() : (Object) number(act.getName(), i, wild);
        }
        return made;
    }

    private int number(String act, int i, boolean wild) {
        if (random.nextInt(wild ? 4 : 60) == 0) {
            int[] far = {Integer.MIN_VALUE, Integer.MAX_VALUE, -1, -2, 7, 40, 41, 99, 100, 255, 501, 9999, 10000, 70};
            return random.nextInt(3) == 0 ? random.nextInt() : far[random.nextInt(far.length)];
        }
        switch (act + i) {
            case "ceiling0": case "ceiling1": return 1 + random.nextInt(random.nextInt(8) == 0 ? 6 : 4);
            case "set1": return random.nextInt(3) == 0 ? random.nextInt(100) : random.nextInt(10);
            case "ofCell0": return random.nextInt(20);
            case "hand0": case "become1": return random.nextInt(70);
            case "as1": case "whose1": return random.nextInt(6);
            case "minutes0": return random.nextInt(12) == 0 ? 500 : random.nextInt(14);
            case "days0": return 1 + random.nextInt(random.nextInt(5) == 0 ? 30 : 4);
            case "called2": case "worst1": case "odds1": return random.nextInt(14);
            case "odds2": return random.nextInt(40);
            case "order1": return random.nextInt(5) - 1;
            case "put1": case "put2": case "move1": case "move3": case "move4": return random.nextInt(7);
            case "voice2": case "seed0": return random.nextInt();
            case "trace0": return random.nextInt(9);
            case "sheet1": return new int[] {8, 16, 32, 32, 0}[random.nextInt(5)];
            case "sheet2": return random.nextInt(7) - 1;
            case "tell0": return random.nextInt(3) == 0 ? random.nextInt(20) : 0;
            case "count0": return random.nextInt(13);
            case "told0": return random.nextInt(7);
            case "law1": case "law2": case "law3": return random.nextInt(12);
            default: return random.nextInt(4);
        }
    }

    /** Both are asked, and answer alike; behind the last call that the document speaks of, neither is. */
    private boolean call(Method act, Object[] arguments) throws Exception {
        if (calls.size() == CALLS) {
            return true;
        }
        Object due = PlainModel.class.getMethod(act.getName(), act.getParameterTypes()).invoke(plain, arguments);
        Object got = act.invoke(real, arguments);
        calls.add(act.getName() + Arrays.toString(arguments) + " answered " + got + ", due is " + due);
        if (got.equals(due)) {
            return true;
        }
        calls.subList(Math.max(0, calls.size() - 12), calls.size()).forEach(System.out::println);
        return false;
    }
}
