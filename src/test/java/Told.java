import java.lang.reflect.Array;
import java.math.BigInteger;
import java.util.ArrayDeque;
import java.util.ArrayList;
import java.util.Deque;
import java.util.List;

/**
 * The whole face once more, written from the document's words alone, the plainest way that Java has (the host's own
 * exceptions are its refusals, the acts are Java's own methods), for ToldTest to compare with.
 */
final class Told {
    static final int BAD = -1, NOT = -2, FULL = -3, STATE = -5, VOID = -2000000000;
    private static final String[] LEAST_MOST = {"1 9", "1 9", "-9 9", "0 3", "2 24", "", "0 5", "0 12"};

    /** SIZE, HEAVY, PACE, PLACE, HIGH. */
    private static final class State {
        List<int[]> hoops = new ArrayList<>();
        int now = 0, rub = 1, beat = 6, phase = 0, strength = 2, pushes = 0, fell = NOT;
        String law = null;

        State copy() {
            State s = new State();
            hoops.forEach(h -> s.hoops.add(h.clone()));
            s.now = now;
            s.rub = rub;
            s.beat = beat;
            s.phase = phase;
            s.strength = strength;
            s.pushes = pushes;
            s.fell = fell;
            s.law = law;
            return s;
        }
    }

    private record Change(int number, int what, int was, int v) { }

    private record More(int tick, int strength, int goal) { }

    private State state = new State();
    private State image = null;
    private int knock = 1;
    private final int[] skill = new int[25];
    private final int[] minutes = new int[25];
    private final List<Integer> tape = new ArrayList<>();
    private final Deque<Change> done = new ArrayDeque<>();
    private final Deque<Change> undone = new ArrayDeque<>();
    private final List<Acts.Turn> bodies = new ArrayList<>();
    private List<Integer> ran = new ArrayList<>();
    private final Object[] shelves = new Object[6];

    Told() {
        java.util.Arrays.fill(skill, 9);
    }

    private static boolean out(int v, int least, int most) {
        return v < least || v > most;
    }

    private boolean noHoop(int hoop) {
        return out(hoop, 0, state.hoops.size() - 1);
    }

    // ---- hoops, pushes

    public int hoop(int sh) {
        if (out(sh, 11, 99) || sh % 10 == 0) {
            return BAD;
        }
        if (state.hoops.size() == 5) {
            return FULL;
        }
        state.hoops.add(new int[] {sh / 10, sh % 10, 4, 0, 20});
        return state.hoops.size() - 1;
    }

    public int hoops(int shelf, int i, int n) {
        if (out(shelf, 0, 5) || out(n, 1, 5)) {
            return BAD;
        }
        int came = 0;
        try {
            byte[] row = (byte[]) shelves[shelf];
            while (came < n) {
                int at = Math.addExact(i, 3 * came);
                int[] three = {row[at], row[at + 1], row[at + 2], 0, 20};
                if (out(three[0], 1, 9) || out(three[1], 1, 9) || out(three[2], -9, 9) || state.hoops.size() == 5) {
                    break;
                }
                state.hoops.add(three);
                came++;
            }
        } catch (ClassCastException e) {
            return -12;
        } catch (NullPointerException | ArrayIndexOutOfBoundsException | ArithmeticException e) {
            return came;
        }
        return came;
    }

    public int mend(int number, int what, int v) {
        if (out(what, 0, 7) || (what < 3 ? noHoop(number) : number != 0)) {
            return VOID;
        }
        String[] bounds = (what == 5 ? "0 " + (state.beat - 1) : LEAST_MOST[what]).split(" ");
        if (out(v, Integer.parseInt(bounds[0]), Integer.parseInt(bounds[1]))) {
            return VOID;
        }
        if (what == 2 && state.hoops.get(number)[4] == 0 && v != 0) {
            return VOID;
        }
        int was = what < 3 ? state.hoops.get(number)[what] : of(0, what + 7);
        if (was == v) {
            return was;
        }
        lay(number, what, v);
        done.addLast(new Change(number, what, was, v));
        if (done.size() > 40) {
            done.removeFirst();
        }
        undone.clear();
        return was;
    }

    private void lay(int number, int what, int v) {
        switch (what) {
            case 3 -> state.rub = v;
            case 4 -> state.beat = v;
            case 5 -> state.phase = v;
            case 6 -> state.strength = v;
            case 7 -> knock = v;
            default -> {
                int[] h = state.hoops.get(number);
                h[what] = what == 2 && h[4] == 0 ? 0 : v;
            }
        }
    }

    public int of(int number, int what) {
        if (what >= 0 && what <= 5) {
            if (noHoop(number)) {
                return VOID;
            }
            int[] h = state.hoops.get(number);
            return what == 5 ? need(h) : h[what];
        }
        if (what >= 10 && what <= 15) {
            int[] told = {state.rub, state.beat, state.phase, state.strength, knock, state.now};
            return number == 0 ? told[what - 10] : VOID;
        }
        if (what == 20 || what == 21) {
            return out(number, 0, 24) ? VOID : what == 20 ? skill[number] : minutes[number];
        }
        return VOID;
    }

    private static int need(int[] h) {
        return (10 - h[0]) / 2 + 1;
    }

    public int feed(int letter) {
        if (out(letter, 0, 255)) {
            return BAD;
        }
        if (tape.size() == 120) {
            return FULL;
        }
        tape.add(letter);
        return tape.size();
    }

    public int law() {
        StringBuilder b = new StringBuilder();
        tape.forEach(letter -> b.append((char) (int) letter));
        tape.clear();
        int fault = fault(b.toString());
        if (fault >= 0) {
            return -100 - fault;
        }
        state.law = b.toString();
        return 1;
    }

    /** Byte by byte, with the marks that are open; -1: none. */
    private static int fault(String text) {
        Deque<Character> open = new ArrayDeque<>();
        Deque<Boolean> compared = new ArrayDeque<>(List.of(false));
        boolean asked = false;
        boolean behind = false;
        int digits = 0;
        for (int i = 0; i < text.length(); i++) {
            char c = text.charAt(i);
            boolean digit = c >= '0' && c <= '9';
            if (!behind || digit) {
                digits = digit ? digits + 1 : 0;
                if (digit ? digits > 4 || behind && digits == 1 : "nvshfy(!-".indexOf(c) < 0) {
                    return i;
                }
                behind = "(!-".indexOf(c) < 0;
                if (!behind) {
                    if (open.size() == 6) {
                        return i;
                    }
                    open.push(c);
                    if (c == '(') {
                        compared.push(false);
                    }
                }
            } else if (c == ')') {
                if (open.isEmpty()) {
                    return i;
                }
                open.pop();
                compared.pop();
                digits = 0;
            } else {
                boolean inner = !open.isEmpty();
                boolean twice = "<=>".indexOf(c) >= 0 && compared.peek();
                if ("|&<=>+-*/%;?".indexOf(c) < 0 || twice || inner && (c == ';' || c == '?') || asked && c == '?') {
                    return i;
                }
                asked = c == '?' || asked && c != ';';
                if ("|&;?".indexOf(c) >= 0 || "<=>".indexOf(c) >= 0) {
                    compared.pop();
                    compared.push("<=>".indexOf(c) >= 0);
                }
                behind = false;
                digits = 0;
            }
            while (behind && !open.isEmpty() && open.peek() != '(') {
                open.pop();
            }
        }
        return behind && open.isEmpty() ? -1 : text.length();
    }

    public int go(int n) {
        if (out(n, 1, 200)) {
            return BAD;
        }
        for (int i = 0; i < n; i++) {
            tick(state, -1, null);
        }
        return upright(state);
    }

    private static int upright(State s) {
        return (int) s.hoops.stream().filter(h -> h[4] > 0).count();
    }

    /** Whether there is a push at a state's tick: -1: none; else the how manieth of all (0 on). */
    private static int nth(State s) {
        int first = s.phase % s.beat;
        return s.now % s.beat == first ? (s.now - first) / s.beat : -1;
    }

    /** leftOut: the number of a push that does not come; more: one more push, or null. */
    private static void tick(State s, int leftOut, More more) {
        int nth = nth(s);
        if (nth >= 0) {
            if (nth != leftOut) {
                push(s, s.strength, nth % 2 == 0 ? 0 : 12);
            }
            s.pushes++;
        }
        if (more != null && more.tick == s.now) {
            push(s, more.strength, more.goal);
        }
        behindPushes(s);
    }

    private static void push(State s, int force, int goal) {
        for (int[] h : s.hoops) {
            if (h[4] == 0) {
                continue;
            }
            int way = Math.floorMod(h[3] - goal, 24);
            int n = Math.min(way, 24 - way);
            int more = s.law == null ? n <= 2 ? force : n >= 10 ? -1 : 0
                : Model.worth(s.law, new int[] {n, Math.abs(h[2]), h[0], h[1], force, h[4]});
            more = Math.max(-9, Math.min(9, more));
            int speed = Math.max(0, Math.min(9, Math.abs(h[2]) + more));
            h[2] = h[2] >= 0 ? speed : -speed;
        }
    }

    private static int less(int pace, int by) {
        return Integer.signum(pace) * Math.max(0, Math.abs(pace) - by);
    }

    private static void behindPushes(State s) {
        for (int[] h : s.hoops) {
            if ((s.now + 1) % h[1] == 0) {
                h[2] = less(h[2], s.rub);
            }
            h[3] = Math.floorMod(h[3] + h[2], 24);
        }
        for (int i = 0; i < s.hoops.size(); i++) {
            for (int j = 0; j < i; j++) {
                int[] a = s.hoops.get(i);
                int[] b = s.hoops.get(j);
                if (a[4] > 0 && b[4] > 0 && a[3] == b[3]) {
                    a[2] = less(a[2], 1);
                    b[2] = less(b[2], 1);
                }
            }
        }
        for (int[] h : s.hoops) {
            if (h[4] == 0) {
                continue;
            }
            h[4] = Math.abs(h[2]) >= need(h) ? Math.min(20, h[4] + 1) : Math.max(0, h[4] - 2);
            if (h[4] == 0) {
                h[2] = 0;
                s.fell = s.now;
            }
        }
        s.now++;
    }

    public int lift(int hoop) {
        if (noHoop(hoop)) {
            return BAD;
        }
        int[] h = state.hoops.get(hoop);
        if (h[4] != 0) {
            return STATE;
        }
        h[2] = 4;
        h[3] = 0;
        h[4] = 20;
        return hoop;
    }

    public int led(int what) {
        return what == 0 ? state.pushes : what == 1 ? state.fell : BAD;
    }

    // ---- in thought

    public int then(int hoop, int k, int what) {
        if (noHoop(hoop) || out(k, 0, 200) || out(what, 0, 2)) {
            return VOID;
        }
        State s = state.copy();
        for (int i = 0; i < k; i++) {
            tick(s, -1, null);
        }
        return s.hoops.get(hoop)[new int[] {3, 2, 4}[what]];
    }

    private static int falls(State from, int hoop, int leftOut, More more) {
        State s = from.copy();
        for (int k = 0; k <= 200; k++) {
            if (s.hoops.get(hoop)[4] == 0) {
                return k;
            }
            tick(s, leftOut, more);
        }
        return NOT;
    }

    private static int lasts(State s, int leftOut) {
        int least = 200;
        for (int i = 0; i < s.hoops.size(); i++) {
            int falls = falls(s, i, leftOut, null);
            if (falls != 0 && falls != NOT) {
                least = Math.min(least, falls - 1);
            }
        }
        return least;
    }

    public int falls(int hoop) {
        return noHoop(hoop) ? BAD : falls(state, hoop, -1, null);
    }

    public int lasts() {
        return lasts(state, -1);
    }

    public int beatFor(int what) {
        if (out(what, 0, 1)) {
            return BAD;
        }
        int best = -1;
        int which = 0;
        for (int beat = 2; beat <= 24; beat++) {
            for (int phase = 0; phase < beat; phase++) {
                State s = state.copy();
                s.beat = beat;
                s.phase = phase;
                int lasts = lasts(s, -1);
                if (lasts > best) {
                    best = lasts;
                    which = beat * 100 + phase;
                }
            }
        }
        return what == 0 ? which : best;
    }

    public int leastPush(int n) {
        if (out(n, 1, 200)) {
            return BAD;
        }
        State s = state.copy();
        for (s.strength = 0; s.strength <= 5; s.strength++) {
            if (lasts(s, -1) >= n) {
                return s.strength;
            }
        }
        return NOT;
    }

    public int mistake(int m, int what) {
        if (out(m, 0, 40) || out(what, 0, 1)) {
            return BAD;
        }
        State s = state.copy();
        while (nth(s) < 0) {
            s.now++;
        }
        int leftOut = nth(s) + m;
        if (what == 0) {
            return lasts(state, leftOut);
        }
        boolean wereBelow = false;
        s = state.copy();
        for (int k = 0; k <= 200; k++) {
            boolean below = s.hoops.stream().anyMatch(h -> h[4] < 20);
            if (wereBelow && !below) {
                return k;
            }
            wereBelow |= below;
            tick(s, leftOut, null);
        }
        return wereBelow ? NOT : 0;
    }

    public int held(int n) {
        if (out(n, 1, 200)) {
            return BAD;
        }
        int best = 0;
        for (int set = 1; set < 32; set++) {
            State s = state.copy();
            boolean so = Integer.bitCount(set) > Integer.bitCount(best) && set < 1 << s.hoops.size();
            for (int i = 0; i < s.hoops.size(); i++) {
                int[] h = s.hoops.get(i);
                if ((set & 1 << i) != 0) {
                    so = so && h[4] > 0;
                } else {
                    h[4] = 0;
                    h[2] = 0;
                }
            }
            if (so && lasts(s, -1) >= n) {
                best = set;
            }
        }
        return best == 0 ? NOT : best;
    }

    public int rescue(int hoop, int fp) {
        if (noHoop(hoop) || out(fp, 100, 599) || fp % 100 > 23) {
            return BAD;
        }
        int without = falls(state, hoop, -1, null);
        if (without == 0 || without == NOT) {
            return STATE;
        }
        for (int k = 0; k <= 99; k++) {
            int by = falls(state, hoop, -1, new More(state.now + k, fp / 100, fp % 100));
            if (by == NOT || by > without) {
                return k;
            }
        }
        return NOT;
    }

    public int start(int hoop) {
        if (noHoop(hoop)) {
            return VOID;
        }
        State s = state.copy();
        if (s.hoops.get(hoop)[4] == 0) {
            return STATE;
        }
        int latest = 0;
        int best = VOID;
        for (int pace = -9; pace <= 9; pace++) {
            s.hoops.get(hoop)[2] = pace;
            int falls = falls(s, hoop, -1, null);
            falls = falls == NOT ? 1000 : falls;
            if (falls > latest) {
                latest = falls;
                best = pace;
            }
        }
        return best;
    }

    // ---- music, films

    /** 0: a row of bytes is there. */
    private int noBytes(int shelf) {
        return shelves[shelf] == null ? -11 : shelves[shelf] instanceof byte[] ? 0 : -12;
    }

    public int music(int shelf) {
        if (out(shelf, 0, 5)) {
            return BAD;
        }
        if (noBytes(shelf) != 0) {
            return noBytes(shelf);
        }
        List<Integer> ticks = new ArrayList<>();
        int at = state.now;
        for (byte b : (byte[]) shelves[shelf]) {
            if (b < 1) {
                break;
            }
            at += b;
            ticks.add(at);
        }
        State s = state.copy();
        int up = upright(s);
        for (int k = 0; k < 200; k++) {
            int nth = ticks.indexOf(s.now);
            if (nth >= 0) {
                push(s, s.strength, nth % 2 == 0 ? 0 : 12);
            }
            behindPushes(s);
            if (upright(s) != up) {
                return k;
            }
        }
        return 200;
    }

    private int judged(State from, int hoop, byte[] film) {
        State s = from.copy();
        for (int i = 0; i < film.length; i++) {
            tick(s, -1, null);
            if (s.hoops.get(hoop)[3] != film[i]) {
                return i;
            }
        }
        return NOT;
    }

    public int judge(int shelf, int hoop) {
        if (out(shelf, 0, 5) || noHoop(hoop)) {
            return BAD;
        }
        return noBytes(shelf) != 0 ? noBytes(shelf) : judged(state, hoop, (byte[]) shelves[shelf]);
    }

    public int begun(int shelf, int hoop, int what) {
        if (out(shelf, 0, 5) || noHoop(hoop) || out(what, 0, 1) || noBytes(shelf) != 0) {
            return VOID;
        }
        List<Integer> paces = new ArrayList<>();
        State s = state.copy();
        int[] h = s.hoops.get(hoop);
        for (int pace = -9; pace <= 9; pace++) {
            h[2] = pace;
            if ((h[4] > 0 || pace == 0) && judged(s, hoop, (byte[]) shelves[shelf]) == NOT) {
                paces.add(pace);
            }
        }
        return what == 0 ? paces.size() : paces.isEmpty() ? NOT : paces.get(0);
    }

    // ---- a field

    public int skill(int girl, int v) {
        if (out(girl, 0, 24) || out(v, 0, 12)) {
            return BAD;
        }
        int was = skill[girl];
        skill[girl] = v;
        minutes[girl] = 0;
        return was;
    }

    /** Of each girl: behind how many minutes it drops (31: not), and who knocked hers. */
    private int[][] play(int seed, int n) {
        int[] drops = new int[25];
        int[] by = new int[25];
        java.util.Arrays.fill(drops, 31);
        java.util.Arrays.fill(by, NOT);
        int z = seed;
        for (int minute = 1; minute <= n; minute++) {
            for (int girl = 0; girl < 25; girl++) {
                if (drops[girl] < 31) {
                    continue;
                }
                z = z * 1103515245 + 12345;
                if ((z >>> 8) % 12 < skill[girl]) {
                    continue;
                }
                drops[girl] = minute;
                for (int[] way : new int[][] {{-1, 0}, {0, 1}, {1, 0}, {0, -1}}) {
                    int row = girl / 5 + way[0];
                    int column = girl % 5 + way[1];
                    if (out(row, 0, 4) || out(column, 0, 4) || drops[5 * row + column] < 31) {
                        continue;
                    }
                    z = z * 1103515245 + 12345;
                    if ((z >>> 8) % 12 < knock) {
                        drops[5 * row + column] = minute;
                        by[5 * row + column] = girl;
                    }
                }
            }
        }
        return new int[][] {drops, by};
    }

    public int left(int seed, int n, int girl) {
        if (out(n, 1, 30) || out(girl, -1, 24)) {
            return BAD;
        }
        int[] drops = play(seed, n)[0];
        return girl >= 0 ? drops[girl] == 31 ? 1 : 0 : (int) java.util.Arrays.stream(drops).filter(d -> d == 31).count();
    }

    public int knocked(int seed, int n, int girl) {
        return out(n, 1, 30) || out(girl, 0, 24) ? BAD : play(seed, n)[1][girl];
    }

    public int last(int seed, int what) {
        if (out(what, 0, 1)) {
            return BAD;
        }
        int[] drops = play(seed, 30)[0];
        int most = java.util.Arrays.stream(drops).max().getAsInt();
        int girl = 0;
        while (drops[girl] < most) {
            girl++;
        }
        return what == 0 ? girl : most;
    }

    public long alone(int girl, int y, int part) {
        if (out(girl, 0, 24) || out(y, 0, 8) || out(part, 0, 1)) {
            return Long.MIN_VALUE;
        }
        BigInteger above = BigInteger.valueOf(skill[girl]).pow(y);
        BigInteger below = BigInteger.valueOf(12).pow(y);
        return (part == 0 ? above : below).divide(above.gcd(below)).longValueExact();
    }

    /** One minute of learning: SKILL and MINUTES behind it. */
    private static int[] learnt(int[] from) {
        if (from[0] == 12) {
            return from;
        }
        return from[1] + 1 == Math.max(1, from[0]) ? new int[] {from[0] + 1, 0} : new int[] {from[0], from[1] + 1};
    }

    public int learn(int girl, int n) {
        if (out(girl, 0, 24) || out(n, 1, 99)) {
            return BAD;
        }
        int[] now = {skill[girl], minutes[girl]};
        for (int i = 0; i < n; i++) {
            now = learnt(now);
        }
        skill[girl] = now[0];
        minutes[girl] = now[1];
        return now[0];
    }

    public int till(int girl, int v) {
        if (out(girl, 0, 24) || out(v, 0, 12)) {
            return BAD;
        }
        int[] now = {skill[girl], minutes[girl]};
        int many = 0;
        while (now[0] < v) {
            now = learnt(now);
            many++;
        }
        return many;
    }

    public int image() {
        image = state.copy();
        return state.now;
    }

    public int back() {
        if (image == null) {
            return STATE;
        }
        state.now = image.now;
        state.pushes = image.pushes;
        state.fell = image.fell;
        for (int i = 0; i < image.hoops.size(); i++) {
            System.arraycopy(image.hoops.get(i), 2, state.hoops.get(i), 2, 3);
        }
        return state.now;
    }

    public int undo() {
        if (done.isEmpty()) {
            return STATE;
        }
        Change c = done.removeLast();
        undone.addLast(c);
        lay(c.number, c.what, c.was);
        return done.size();
    }

    public int redo() {
        if (undone.isEmpty()) {
            return STATE;
        }
        Change c = undone.removeLast();
        done.addLast(c);
        lay(c.number, c.what, c.v);
        return undone.size();
    }

    // ---- acts, shelves

    public int body(int kind) {
        if (out(kind, 0, 7)) {
            return BAD;
        }
        if (bodies.size() == 50) {
            return FULL;
        }
        bodies.add(Acts.made(kind, bodies.size()));
        return bodies.size() - 1;
    }

    public int act(int body, int act, int x) {
        Acts.RAN.clear();
        int answer = out(body, 0, bodies.size() - 1) || out(act, 0, 3) ? 0 : Acts.acted(bodies.get(body), act, x);
        ran = new ArrayList<>(Acts.RAN);
        return answer;
    }

    public int trace(int i) {
        return out(i, 0, Math.min(24, ran.size()) - 1) ? BAD : ran.get(i);
    }

    public int keep(int shelf, int body) {
        if (out(shelf, 0, 5) || out(body, -1, bodies.size() - 1)) {
            return BAD;
        }
        shelves[shelf] = body < 0 ? null : bodies.get(body);
        return 1;
    }

    public int row(int shelf, int sort, int n) {
        if (out(shelf, 0, 5) || out(sort, 0, 4) || n > 60) {
            return BAD;
        }
        Class<?>[] sorts = {byte.class, short.class, int.class, long.class, boolean.class};
        try {
            shelves[shelf] = Array.newInstance(sorts[sort], n);
        } catch (NegativeArraySizeException e) {
            return -14;
        }
        return 1;
    }

    /** 0: element i of a row is there. */
    private int noElement(int shelf, int i) {
        try {
            Array.get(shelves[shelf], i);
        } catch (NullPointerException e) {
            return -11;
        } catch (IllegalArgumentException e) {
            return -12;
        } catch (ArrayIndexOutOfBoundsException e) {
            return -13;
        }
        return 0;
    }

    public int put(int shelf, int i, long v) {
        if (out(shelf, 0, 5)) {
            return BAD;
        }
        if (noElement(shelf, i) != 0) {
            return noElement(shelf, i);
        }
        Object row = shelves[shelf];
        if (row instanceof byte[] bytes) {
            bytes[i] = (byte) v;
        } else if (row instanceof short[] shorts) {
            shorts[i] = (short) v;
        } else if (row instanceof int[] ints) {
            ints[i] = (int) v;
        } else if (row instanceof long[] longs) {
            longs[i] = v;
        } else {
            ((boolean[]) row)[i] = v != 0;
        }
        return 1;
    }

    public long element(int shelf, int i) {
        if (out(shelf, 0, 5) || noElement(shelf, i) != 0) {
            return Long.MIN_VALUE;
        }
        Object row = shelves[shelf];
        return row instanceof boolean[] booleans ? booleans[i] ? 1 : 0 : Array.getLong(row, i);
    }

    public int shift(int shelf, int i, int other, int j, int n) {
        if (out(shelf, 0, 5) || out(other, 0, 5)) {
            return BAD;
        }
        try {
            System.arraycopy(shelves[shelf], i, shelves[other], j, n);
        } catch (NullPointerException e) {
            return -11;
        } catch (ArrayStoreException e) {
            return -12;
        } catch (IndexOutOfBoundsException e) {
            return -13;
        }
        return n;
    }

    public int taken(int shelf, int k) {
        if (out(shelf, 0, 5) || out(k, 0, 7)) {
            return BAD;
        }
        if (shelves[shelf] == null) {
            return -11;
        }
        Object kind = Acts.made(k, 0);
        return kind.getClass().isInstance(shelves[shelf]) ? Acts.kindOf((Acts.Turn) shelves[shelf]) : -12;
    }

    public int count(int what) {
        int[] many = {state.hoops.size(), upright(state), tape.size(), done.size(), bodies.size(), ran.size()};
        return out(what, 0, 5) ? BAD : many[what];
    }
}
