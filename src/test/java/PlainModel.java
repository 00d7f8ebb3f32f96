import java.util.ArrayDeque;
import java.util.ArrayList;
import java.util.Arrays;
import java.util.List;
import java.util.TreeMap;

/**
 * A second program by the same document, without care for speed or room and by other ways
 * wherever there are some: every order is rolled, texts are split where they join, faults are
 * found by a walk over the bytes. RandomCallsTest holds the class against it.
 */
final class PlainModel {
    private static final int LOW = -1000000000;
    private static final int BEYOND = 1;
    private static final int NONE = 2;
    private static final int STATE = 3;
    private static final int FULL = 4;
    private static final int KIND = 5;

    private interface Work {
        int of(int a, int b, int c);
    }

    private static final class Cell {
        int when = -1;
        int white = 0;
    }

    private static final class All {
        int rows = 4, strips = 4, minute = 0, heat = 3;
        int left = 20, white = 0, size = 20, begun = 0, z = 1;
        List<Cell> cells = newCells(16);
        List<int[]> hands = new ArrayList<>();
        Work dries = null, light = null;
        List<Integer> tape = new ArrayList<>();
        List<Integer> waiting = new ArrayList<>();

        static List<Cell> newCells(int n) {
            List<Cell> made = new ArrayList<>();
            for (int i = 0; i < n; i++) {
                made.add(new Cell());
            }
            return made;
        }

        All twin() {
            All t = new All();
            t.rows = rows;
            t.strips = strips;
            t.minute = minute;
            t.heat = heat;
            t.left = left;
            t.white = white;
            t.size = size;
            t.begun = begun;
            t.z = z;
            t.cells = newCells(cells.size());
            for (int i = 0; i < cells.size(); i++) {
                t.cells.get(i).when = cells.get(i).when;
                t.cells.get(i).white = cells.get(i).white;
            }
            for (int[] h : hands) {
                t.hands.add(h.clone());
            }
            t.dries = dries;
            t.light = light;
            t.tape = new ArrayList<>(tape);
            t.waiting = new ArrayList<>(waiting);
            return t;
        }

        Cell cell(int row, int strip) {
            return cells.get(row * strips + strip);
        }

        int pace(int kind, int m, int k) {
            switch (kind) {
                case 0: return 2;
                case 1: return pace(0, m, k) + 1;
                case 2: return 1;
                case 3: return k % 2 == 0 ? 1 : 0;
                case 4: return pace(1, m, k) + m / 4;
                case 5: return pace(2, m, k) + k / 3;
                default: return pace(3, m, k);
            }
        }

        int load(int kind, int m) {
            switch (kind) {
                case 0: return 2;
                case 1: return load(0, m);
                case 2: return 3 + m % 3;
                case 3: return 9;
                case 4: return load(1, m);
                case 5: return load(2, m) - 1;
                default: return load(3, m) / 2;
            }
        }

        int uses(int kind, int m) {
            switch (kind) {
                case 3: return 2;
                case 6: return uses(3, m) + m % 2;
                default: return 1;
            }
        }

        void rollBy(int kind, int m, int strip, int up) {
            int row = up == 1 ? rows - 1 : 0;
            for (int k = 0; k < rows; k++) {
                if (k % load(kind, m) == 0 && k != 0) {
                    minute += 1;
                }
                if (left < uses(kind, m)) {
                    left = size;
                    white = white == 99 ? 0 : white + 1;
                    begun++;
                }
                left -= uses(kind, m);
                if (left < 0) {
                    left = 0;
                }
                minute += pace(kind, m, k);
                cell(row, strip).when = minute;
                cell(row, strip).white = white;
                row += up == 1 ? -1 : 1;
            }
        }

        void rollBy(int hand, int strip, int up) {
            rollBy(hands.get(hand)[0], hands.get(hand)[1], strip, up);
        }

        int law(int use, int a, int b, int c) {
            int v;
            if (use == 0) {
                v = dries == null ? 10 - c : dries.of(a, b, c);
            } else {
                v = light == null ? 1 + c : light.of(a, b, c);
            }
            return v < 0 ? 0 : v > 99 ? 99 : v;
        }

        boolean seam(int row, int strip) {
            if (strip + 1 >= strips) {
                return false;
            }
            Cell a = cell(row, strip);
            Cell b = cell(row, strip + 1);
            if (a.when == -1 || b.when == -1) {
                return false;
            }
            int earlier = a.when <= b.when ? strip : strip + 1;
            int dry = law(0, row, earlier, heat);
            return a.white != b.white || Math.abs(a.when - b.when) > dry;
        }

        int seams() {
            int n = 0;
            for (int i = 0; i < cells.size(); i++) {
                n += seam(i / strips, i % strips) ? 1 : 0;
            }
            return n;
        }

        int seen() {
            int sum = 0;
            for (int i = 0; i < cells.size(); i++) {
                int r = i / strips;
                int s = i % strips;
                if (seam(r, s)) {
                    sum += law(1, r, s, Math.abs(cell(r, s).white - cell(r, s + 1).white));
                }
            }
            return sum;
        }

        int seenBehind(int hand, List<Integer> order) {
            All t = twin();
            for (int s : order) {
                t.rollBy(hand, s, 0);
            }
            return t.seen();
        }

        int seenWithPauses(int hand, int[] pauses) {
            All t = twin();
            for (int s = 0; s < strips; s++) {
                t.minute += pauses[s];
                t.rollBy(hand, s, 0);
            }
            return t.seen();
        }

        int called(int hand, int s, int n) {
            int[] pauses = new int[strips];
            pauses[s] = n;
            return seenWithPauses(hand, pauses);
        }
    }

    private All now = new All();
    private All kept = null;
    private int images = 0;
    private final int[] errors = new int[6];
    private final List<Integer> heard = new ArrayList<>();
    private final int[] bits = new int[4];
    private final int[][] sheets = new int[4][];

    int strips() {
        return now.strips;
    }

    List<Integer> whensOf(int kind, int m) {
        All t = now.twin();
        t.rollBy(kind, m, 0, 0);
        List<Integer> whens = new ArrayList<>();
        for (int r = 0; r < t.rows; r++) {
            whens.add(t.cell(r, 0).when);
        }
        return whens;
    }

    private int error(int k) {
        errors[k]++;
        return LOW - k;
    }

    private boolean isHand(int hand) {
        return hand >= 0 && hand < now.hands.size();
    }

    private static boolean in(int v, int a, int b) {
        return a <= v && v <= b;
    }

    public int ceiling(int rows, int strips) {
        if (!in(rows, 1, 6) || !in(strips, 1, 6)) return error(BEYOND);
        now.rows = rows;
        now.strips = strips;
        now.cells = All.newCells(rows * strips);
        return rows * strips;
    }

    public int set(int what, int v) {
        int was;
        if (what == 0 && in(v, 0, 9)) {
            was = now.heat;
            now.heat = v;
        } else if (what == 1 && in(v, 0, 99)) {
            was = now.left;
            now.left = v;
        } else if (what == 2 && in(v, 0, 99)) {
            was = now.white;
            now.white = v;
        } else if (what == 3 && in(v, 1, 99)) {
            was = now.size;
            now.size = v;
        } else {
            return error(BEYOND);
        }
        return was;
    }

    public int ofCell(int cell, int what) {
        if (!in(cell, 0, now.cells.size() - 1) || !in(what, 0, 3)) return error(BEYOND);
        int r = cell / now.strips;
        int s = cell % now.strips;
        if (what == 0) return now.cell(r, s).when;
        if (what == 1) return now.cell(r, s).white;
        if (what == 2) return now.law(0, r, s, now.heat);
        return now.seam(r, s) ? 1 : 0;
    }

    public int hand(int km) {
        if (!in(km, 0, 69)) return error(BEYOND);
        if (now.hands.size() == 6) return error(FULL);
        now.hands.add(new int[] {km / 10, km % 10});
        return now.hands.size() - 1;
    }

    public int ofHand(int hand, int what) {
        if (!isHand(hand) || !in(what, 0, 5)) return error(BEYOND);
        int kind = now.hands.get(hand)[0];
        int m = now.hands.get(hand)[1];
        return new int[] {kind, m, now.pace(kind, m, 0), now.pace(kind, m, 3),
            now.load(kind, m), now.uses(kind, m)}[what];
    }

    public int become(int hand, int km) {
        if (!isHand(hand) || !in(km, 0, 69)) return error(BEYOND);
        int was = now.hands.get(hand)[0];
        now.hands.set(hand, new int[] {km / 10, km % 10});
        return was;
    }

    public int as(int hand, int kind) {
        if (!isHand(hand) || !in(kind, 0, 6)) return error(BEYOND);
        int own = now.hands.get(hand)[0];
        boolean is = kind == 0 || kind == own || kind == own - 3;
        return is ? now.hands.get(hand)[1] : error(KIND);
    }

    public int feed(long word, int n) {
        if (!in(n, 1, 8)) return error(BEYOND);
        if (now.tape.size() + n > 50) return error(FULL);
        long rest = word;
        for (int i = 0; i < n; i++) {
            now.tape.add((int) (rest & 0xff));
            rest >>= 8;
        }
        return now.tape.size();
    }

    public int text(int use) {
        if (!in(use, 0, 1)) return error(BEYOND);
        StringBuilder b = new StringBuilder();
        for (int v : now.tape) {
            b.append((char) v);
        }
        now.tape.clear();
        String names = use == 0 ? "rsh" : "rsw";
        int fault = fault(b.toString(), names);
        if (fault >= 0) return -10 - fault;
        Work work = compile(b.toString(), names);
        if (use == 0) now.dries = work; else now.light = work;
        return 1;
    }

    private static final class Level {
        int bangs = 0;
        boolean compared = false;
    }

    /** A walk over the bytes: what is open, and whether a Q or a sign behind one is due. */
    static int fault(String s, String names) {
        ArrayDeque<Level> levels = new ArrayDeque<>();
        levels.push(new Level());
        boolean due = true;
        int digits = 0;
        for (int i = 0; i < s.length(); i++) {
            char ch = s.charAt(i);
            int open = levels.size() - 1;
            for (Level l : levels) open += l.bangs;
            Level top = levels.peek();
            if (due) {
                if (ch == '!' && open < 5) {
                    top.bangs++;
                } else if (ch == '(' && open < 5) {
                    levels.push(new Level());
                } else if (ch >= '0' && ch <= '9') {
                    digits = 1;
                    due = false;
                    top.bangs = 0;
                } else if (names.indexOf(ch) >= 0) {
                    digits = 4;
                    due = false;
                    top.bangs = 0;
                } else {
                    return i;
                }
            } else if (ch >= '0' && ch <= '9' && digits < 4) {
                digits++;
            } else if (ch == '|' || ch == '&') {
                top.compared = false;
                due = true;
            } else if ("<=>".indexOf(ch) >= 0 && !top.compared) {
                top.compared = true;
                due = true;
            } else if ("+-*/%".indexOf(ch) >= 0) {
                due = true;
            } else if (ch == ')' && levels.size() > 1) {
                levels.pop();
                levels.peek().bangs = 0;
                digits = 4;
            } else {
                return i;
            }
        }
        return due || levels.size() > 1 ? s.length() : -1;
    }

    /** Splits at the last of the loosest signs that stand in no bracket. */
    static Work compile(String s, String names) {
        for (String signs : new String[] {"|", "&", "<=>", "+-", "*/%"}) {
            int depth = 0;
            for (int i = s.length() - 1; i >= 0; i--) {
                char ch = s.charAt(i);
                if (ch == ')') depth++;
                if (ch == '(') depth--;
                if (depth == 0 && signs.indexOf(ch) >= 0) {
                    Work x = compile(s.substring(0, i), names);
                    Work y = compile(s.substring(i + 1), names);
                    return (a, b, c) -> join(ch, x.of(a, b, c), y.of(a, b, c));
                }
            }
        }
        char ch = s.charAt(0);
        if (ch == '!') {
            Work x = compile(s.substring(1), names);
            return (a, b, c) -> x.of(a, b, c) == 0 ? 1 : 0;
        }
        if (ch == '(') {
            return compile(s.substring(1, s.length() - 1), names);
        }
        int name = names.indexOf(ch);
        if (name >= 0) {
            return (a, b, c) -> name == 0 ? a : name == 1 ? b : c;
        }
        int v = Integer.parseInt(s);
        return (a, b, c) -> v;
    }

    private static int join(char sign, int x, int y) {
        switch (sign) {
            case '|': return x != 0 || y != 0 ? 1 : 0;
            case '&': return x != 0 && y != 0 ? 1 : 0;
            case '<': return x < y ? 1 : 0;
            case '=': return x == y ? 1 : 0;
            case '>': return x > y ? 1 : 0;
            case '+': return x + y;
            case '-': return x - y;
            case '*': return x * y;
            case '/': return y == 0 ? 0 : (int) ((long) x / y);
            default: return y == 0 ? 0 : (int) ((long) x % y);
        }
    }

    public int law(int use, int a, int b, int c) {
        return in(use, 0, 1) ? now.law(use, a, b, c) : error(BEYOND);
    }

    public int roll(int hand, int strip, int up) {
        if (!isHand(hand) || !in(strip, 0, now.strips - 1) || !in(up, 0, 1)) return error(BEYOND);
        if (now.minute > 9900) return error(STATE);
        now.rollBy(hand, strip, up);
        return now.minute;
    }

    public int minutes(int n) {
        if (!in(n, 1, 500)) return error(BEYOND);
        if (now.minute + n > 9999) return error(STATE);
        now.minute += n;
        return now.minute;
    }

    private int draw(int n) {
        now.z = now.z * 1103515245 + 12345;
        return (now.z >>> 8) % n;
    }

    public int days(int n) {
        if (!in(n, 1, 30)) return error(BEYOND);
        if (now.hands.isEmpty()) return error(STATE);
        for (int i = 0; i < n; i++) {
            int hand = draw(now.hands.size());
            int strip = draw(now.strips);
            int way = draw(2);
            int pause = draw(8);
            now.minute = Math.min(9999, now.minute + pause);
            if (now.minute <= 9900) now.rollBy(hand, strip, way);
        }
        return now.seen();
    }

    public int seams(int what) {
        if (!in(what, 0, 1)) return error(BEYOND);
        return what == 0 ? now.seams() : now.seen();
    }

    public int done(int hand, int sheet) {
        if (!isHand(hand) || !in(sheet, 0, 3)) return error(BEYOND);
        if (bits[sheet] == 0) return error(NONE);
        List<Integer> order = new ArrayList<>();
        for (int v : sheets[sheet]) order.add(v);
        List<Integer> sorted = new ArrayList<>(order);
        sorted.sort(null);
        List<Integer> all = new ArrayList<>();
        for (int s = 0; s < now.strips; s++) all.add(s);
        if (!sorted.equals(all)) return error(STATE);
        return now.seenBehind(hand, order);
    }

    private void orders(List<Integer> begun, List<List<Integer>> all) {
        if (begun.size() == now.strips) {
            all.add(new ArrayList<>(begun));
            return;
        }
        for (int s = 0; s < now.strips; s++) {
            if (!begun.contains(s)) {
                begun.add(s);
                orders(begun, all);
                begun.remove(begun.size() - 1);
            }
        }
    }

    /** By SEEN the first order with it: the first key is the best. */
    private TreeMap<Integer, List<Integer>> bySeen(int hand) {
        List<List<Integer>> all = new ArrayList<>();
        orders(new ArrayList<>(), all);
        TreeMap<Integer, List<Integer>> firsts = new TreeMap<>();
        for (List<Integer> order : all) {
            firsts.putIfAbsent(now.seenBehind(hand, order), order);
        }
        return firsts;
    }

    public int order(int hand, int what) {
        if (!isHand(hand) || !in(what, -1, now.strips - 1)) return error(BEYOND);
        TreeMap<Integer, List<Integer>> firsts = bySeen(hand);
        return what == -1 ? firsts.firstKey() : firsts.firstEntry().getValue().get(what);
    }

    public int clean(int hand, int what) {
        if (!isHand(hand) || !in(what, 0, 1)) return error(BEYOND);
        int heat = now.heat;
        int least = -1;
        int greatest = -1;
        for (int h = 0; h <= 9; h++) {
            now.heat = h;
            if (bySeen(hand).firstKey() == 0) {
                if (least < 0) least = h;
                greatest = h;
            }
        }
        now.heat = heat;
        return least < 0 ? error(NONE) : what == 0 ? least : greatest;
    }

    public int called(int hand, int s, int n) {
        if (!isHand(hand) || !in(s, 1, now.strips - 1) || !in(n, 0, 500)) return error(BEYOND);
        return now.called(hand, s, n);
    }

    public int worst(int hand, int n, int what) {
        if (!isHand(hand) || !in(n, 0, 500) || !in(what, 0, 1)) return error(BEYOND);
        if (now.strips == 1) return error(NONE);
        int worst = 0;
        int most = -1;
        for (int s = 1; s < now.strips; s++) {
            int seen = now.called(hand, s, n);
            if (seen > most) {
                most = seen;
                worst = s;
            }
        }
        return what == 0 ? worst : most;
    }

    public int howLong(int hand, int s) {
        if (!isHand(hand) || !in(s, 1, now.strips - 1)) return error(BEYOND);
        int without = now.called(hand, s, 0);
        int greatest = 0;
        for (int n = 0; n <= 500; n++) {
            if (now.called(hand, s, n) <= without) greatest = n;
        }
        return greatest;
    }

    public int cans(int hand) {
        if (!isHand(hand)) return error(BEYOND);
        All t = now.twin();
        t.begun = 0;
        for (int s = 0; s < t.strips; s++) t.rollBy(hand, s, 0);
        return t.begun;
    }

    public int whose(int hand, int strip, int sheet) {
        if (!isHand(hand) || !in(strip, 0, now.strips - 1) || !in(sheet, 0, 3)) return error(BEYOND);
        if (bits[sheet] == 0 || sheets[sheet].length != now.rows) return error(NONE);
        for (int kind = 0; kind <= 6; kind++) {
            All t = now.twin();
            t.rollBy(kind, now.hands.get(hand)[1], strip, 0);
            int[] whens = new int[t.rows];
            for (int r = 0; r < t.rows; r++) whens[r] = t.cell(r, strip).when;
            if (Arrays.equals(whens, sheets[sheet])) return kind;
        }
        return error(NONE);
    }

    public int odds(int hand, int n, int v, int part) {
        if (!isHand(hand) || !in(n, 0, 500) || !in(v, 0, 9999) || !in(part, 0, 1)) return error(BEYOND);
        int ways = 0;
        int good = 0;
        for (int set = 0; set < 1 << now.strips; set += 2) {
            int[] pauses = new int[now.strips];
            for (int s = 1; s < now.strips; s++) pauses[s] = (set & 1 << s) != 0 ? n : 0;
            ways++;
            if (now.seenWithPauses(hand, pauses) <= v) good++;
        }
        for (int d = ways; d > 1; d--) {
            if (good % d == 0 && ways % d == 0) {
                good /= d;
                ways /= d;
            }
        }
        return part == 0 ? good : ways;
    }

    public int seed(int v) {
        int was = now.z;
        now.z = v;
        return was;
    }

    /** The bodies as a tree of Java classes says them itself. */
    private class Voice0 {
        int n, m;
        void b(int body) { if (heard.size() < 40) heard.add(body); }
        int loads(int x) { b(10); return x + n; }
        int rolls(int x) { b(11); return loads(x) * 2; }
        int dries(int x) { b(12); return x - m; }
        int tells(int x) { b(13); return rolls(x) ^ dries(x); }
    }

    private class Voice1 extends Voice0 {
        @Override int dries(int x) { b(20); return -super.dries(x); }
    }

    private class Voice2 extends Voice0 {
        @Override int rolls(int x) { b(30); return super.rolls(x) - dries(1); }
    }

    private class Voice3 extends Voice0 {
        @Override int loads(int x) { b(40); return super.loads(x) * 3; }
    }

    private class Voice4 extends Voice1 {
        @Override int dries(int x) { b(50); return super.dries(x) ^ n; }
        @Override int tells(int x) { b(51); return rolls(x) - super.tells(x); }
    }

    private class Voice5 extends Voice2 {
        @Override int rolls(int x) { b(60); return super.rolls(x + 1); }
    }

    private class Voice6 extends Voice3 {
        @Override int tells(int x) { b(70); return super.tells(x) - loads(2); }
    }

    public int voice(int hand, int act, int x) {
        if (!isHand(hand) || !in(act, 0, 3)) return error(BEYOND);
        Voice0[] all = {new Voice0(), new Voice1(), new Voice2(), new Voice3(),
            new Voice4(), new Voice5(), new Voice6()};
        Voice0 v = all[now.hands.get(hand)[0]];
        v.n = hand;
        v.m = now.hands.get(hand)[1];
        heard.clear();
        return act == 0 ? v.loads(x) : act == 1 ? v.rolls(x) : act == 2 ? v.dries(x) : v.tells(x);
    }

    public int trace(int i) {
        return in(i, 0, heard.size() - 1) ? heard.get(i) : error(NONE);
    }

    public int sheet(int sheet, int width, int n) {
        if (!in(sheet, 0, 3) || !List.of(0, 8, 16, 32).contains(width)) return error(BEYOND);
        if (width != 0 && n < 0) return error(STATE);
        if (width != 0 && n > 40) return error(BEYOND);
        bits[sheet] = width;
        sheets[sheet] = width == 0 ? null : new int[n];
        return 1;
    }

    public int put(int sheet, int i, int v) {
        if (!in(sheet, 0, 3)) return error(BEYOND);
        if (bits[sheet] == 0) return error(NONE);
        if (!in(i, 0, sheets[sheet].length - 1)) return error(BEYOND);
        int shift = 32 - bits[sheet];
        sheets[sheet][i] = v << shift >> shift;
        return 1;
    }

    public int move(int sheet, int i, int other, int j, int n) {
        if (!in(sheet, 0, 3) || !in(other, 0, 3)) return error(BEYOND);
        if (bits[sheet] == 0 || bits[other] == 0) return error(NONE);
        if (bits[sheet] != bits[other]) return error(KIND);
        if (n < 0 || i < 0 || j < 0 || (long) i + n > sheets[sheet].length
                || (long) j + n > sheets[other].length) return error(BEYOND);
        int[] were = sheets[sheet].clone();
        for (int k = 0; k < n; k++) sheets[other][j + k] = were[i + k];
        return n;
    }

    public int whites(int sheet) {
        if (!in(sheet, 0, 3)) return error(BEYOND);
        if (bits[sheet] == 0) return error(NONE);
        int k = 0;
        for (int v : sheets[sheet]) {
            if (!in(v, 0, 99) || k == now.cells.size()) break;
            now.cells.get(k).white = v;
            k++;
        }
        return k;
    }

    public int judge(int sheet) {
        if (!in(sheet, 0, 3)) return error(BEYOND);
        if (bits[sheet] == 0) return error(NONE);
        for (int i = 0; i < 50; i++) {
            boolean told = i < sheets[sheet].length;
            boolean is = i < now.cells.size();
            if (told != is || told && sheets[sheet][i] != now.cells.get(i).when) return i;
        }
        return -1;
    }

    public int image() {
        kept = now.twin();
        return ++images;
    }

    public int restore() {
        if (kept == null) return error(NONE);
        now = kept.twin();
        return now.minute;
    }

    public int tell(int v) {
        if (now.waiting.size() == 20) return error(FULL);
        now.waiting.add(v);
        return now.waiting.size();
    }

    public int check() {
        List<Integer> told = new ArrayList<>(now.waiting);
        now.waiting.clear();
        All t = now.twin();
        for (int i = 0; i < told.size(); i++) {
            if (now.hands.isEmpty()) return 1 + i;
            t.rollBy(0, i % t.strips, 0);
            if (t.seen() != told.get(i)) return 1 + i;
        }
        return 0;
    }

    public int count(int what) {
        switch (what) {
            case 0: return now.rows * now.strips;
            case 1: return now.hands.size();
            case 2: return now.minute;
            case 3: return (int) now.cells.stream().filter(c -> c.when != -1).count();
            case 4: return now.left;
            case 5: return now.white;
            case 6: return now.size;
            case 7: return now.heat;
            case 8: return now.tape.size();
            case 9: return now.waiting.size();
            case 10: return heard.size();
            case 11: return now.z;
            default: return error(BEYOND);
        }
    }

    public int told(int k) {
        return in(k, 1, 5) ? errors[k] : error(BEYOND);
    }
}
