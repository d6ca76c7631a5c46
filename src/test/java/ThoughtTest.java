import java.util.Random;

/** Promises 11 to 19: in thought. What is asked changes nothing; each answer is worked out again by the model. */
public final class ThoughtTest {
    public static void main(String[] args) {
        wrongInputs();
        noHoops();
        for (int seed = 0; seed < 260; seed++) {
            Pair p = Pair.random(new Random(1000 + seed));
            String at = "seed " + seed + " ";
            then(p, at);
            falls(p, at);
            least(p, at, new Random(seed));
            mistake(p, at, seed % 41);
            held(p, at, 1 + seed * 7 % 200);
            rescue(p, at, new Random(seed));
            start(p, at);
            if (seed % 8 == 0) {
                beatFor(p, at);
            }
        }
        caughtFromNow();
        caughtLying();
        edgesOfTwoHundred();
        theLongestBeat();
        Due.end();
    }

    private static void wrongInputs() {
        HoopWaist x = new HoopWaist();
        x.hoop(55);
        int[] far = {Integer.MIN_VALUE, -1, Integer.MAX_VALUE};
        for (int b : far) {
            Due.same("then, hoop", x.then(b, 0, 0), HoopWaist.VOID);
            Due.same("then, k", x.then(0, b, 0), HoopWaist.VOID);
            Due.same("then, what", x.then(0, 0, b), HoopWaist.VOID);
            Due.same("falls", x.falls(b), HoopWaist.BAD);
            Due.same("beatFor", x.beatFor(b), HoopWaist.BAD);
            Due.same("leastPush", x.leastPush(b), HoopWaist.BAD);
            Due.same("mistake, m", x.mistake(b, 0), HoopWaist.BAD);
            Due.same("mistake, what", x.mistake(0, b), HoopWaist.BAD);
            Due.same("held", x.held(b), HoopWaist.BAD);
            Due.same("rescue, hoop", x.rescue(b, 100), HoopWaist.BAD);
            Due.same("rescue, fp", x.rescue(0, b), HoopWaist.BAD);
            Due.same("start", x.start(b), HoopWaist.VOID);
        }
        Due.same("then(1, 0, 0)", x.then(1, 0, 0), HoopWaist.VOID);
        Due.same("then(0, 201, 0)", x.then(0, 201, 0), HoopWaist.VOID);
        Due.same("then(0, 0, 3)", x.then(0, 0, 3), HoopWaist.VOID);
        Due.same("falls(1)", x.falls(1), HoopWaist.BAD);
        Due.same("beatFor(2)", x.beatFor(2), HoopWaist.BAD);
        Due.same("leastPush(0)", x.leastPush(0), HoopWaist.BAD);
        Due.same("leastPush(201)", x.leastPush(201), HoopWaist.BAD);
        Due.same("mistake(41, 0)", x.mistake(41, 0), HoopWaist.BAD);
        Due.same("mistake(0, 2)", x.mistake(0, 2), HoopWaist.BAD);
        Due.same("held(0)", x.held(0), HoopWaist.BAD);
        Due.same("held(201)", x.held(201), HoopWaist.BAD);
        Due.same("start(1)", x.start(1), HoopWaist.VOID);
        for (int fp : new int[] {0, 23, 99, 124, 199, 524, 600, 623, -100, -101}) {
            Due.same("rescue(0, " + fp + ")", x.rescue(0, fp), HoopWaist.BAD);
        }
        Due.same("rescue(1, 100)", x.rescue(1, 100), HoopWaist.BAD);
    }

    private static void noHoops() {
        HoopWaist x = new HoopWaist();
        Due.same("lasts", x.lasts(), 200);
        Due.same("beatFor(0)", x.beatFor(0), 200);
        Due.same("beatFor(1)", x.beatFor(1), 200);
        Due.same("leastPush(200)", x.leastPush(200), 0);
        Due.same("mistake(40, 0)", x.mistake(40, 0), 200);
        Due.same("mistake(40, 1)", x.mistake(40, 1), 0);
        Due.same("held(1)", x.held(1), HoopWaist.NOT);
    }

    // Promise 11
    private static void then(Pair p, String at) {
        Model m = p.m.copy();
        for (int k = 0; k <= 200; k++) {
            for (int i = 0; i < m.hoops.size() && (k < 5 || k > 197 || k % 17 == 0); i++) {
                Due.same(at + "place behind " + k, p.x.then(i, k, 0), m.hoops.get(i)[3]);
                Due.same(at + "pace behind " + k, p.x.then(i, k, 1), m.hoops.get(i)[2]);
                Due.same(at + "high behind " + k, p.x.then(i, k, 2), m.hoops.get(i)[4]);
            }
            m.tick();
        }
        Due.same(at + "now stays", p.x.of(0, 15), p.m.now);
    }

    // Promises 12 and 13
    private static void falls(Pair p, String at) {
        for (int i = 0; i < p.m.hoops.size(); i++) {
            Due.same(at + "falls " + i, p.x.falls(i), p.m.falls(i));
        }
        Due.same(at + "falls of one that is not there", p.x.falls(p.m.hoops.size()), HoopWaist.BAD);
        Due.same(at + "lasts", p.x.lasts(), p.m.lasts());
    }

    // Promise 14
    private static void beatFor(Pair p, String at) {
        int best = -1;
        int which = 0;
        for (int beat = 2; beat <= 24; beat++) {
            for (int phase = 0; phase < beat; phase++) {
                Model m = p.m.copy();
                m.beat = beat;
                m.phase = phase;
                int lasts = m.lasts();
                if (lasts > best) {
                    best = lasts;
                    which = 100 * beat + phase;
                }
            }
        }
        Due.same(at + "beat for", p.x.beatFor(0), which);
        Due.same(at + "lasts by it", p.x.beatFor(1), best);
    }

    // Promise 15
    private static void least(Pair p, String at, Random r) {
        for (int round = 0; round < 3; round++) {
            int n = round == 0 ? 1 + r.nextInt(200) : Math.max(1, p.m.lasts() + round - 1);
            int want = HoopWaist.NOT;
            for (int strength = 5; strength >= 0; strength--) {
                Model m = p.m.copy();
                m.strength = strength;
                want = m.lasts() >= n ? strength : want;
            }
            Due.same(at + "least push for " + n, p.x.leastPush(n), n > 200 ? HoopWaist.BAD : want);
        }
    }

    // Promise 16
    private static void mistake(Pair p, String at, int m) {
        int[] want = mistaken(p.m, m);
        Due.same(at + "mistake " + m + " lasts", p.x.mistake(m, 0), want[0]);
        Due.same(at + "mistake " + m + " caught", p.x.mistake(m, 1), want[1]);
        want = mistaken(p.m, m % 4);
        Due.same(at + "mistake " + m % 4 + " lasts", p.x.mistake(m % 4, 0), want[0]);
        Due.same(at + "mistake " + m % 4 + " caught", p.x.mistake(m % 4, 1), want[1]);
    }

    private static int[] mistaken(Model start, int m) {
        Model now = start.copy();
        int lasts = 200;
        int caught = 0;
        int seen = 0;
        for (int k = 0; k <= 200; k++) {
            boolean all = true;
            for (int i = 0; i < now.hoops.size(); i++) {
                all = all && now.hoops.get(i)[4] == 20;
                if (now.lies(i) && !start.lies(i)) {
                    lasts = Math.min(lasts, k - 1);
                }
            }
            if (!all && caught == 0) {
                caught = HoopWaist.NOT;
            }
            if (all && caught == HoopWaist.NOT) {
                caught = k;
            }
            int goal = now.goal();
            if (goal >= 0 && seen++ != m) {
                now.push(now.strength, goal);
            }
            now.settle();
        }
        return new int[] {lasts, caught};
    }

    // Promise 17
    private static void held(Pair p, String at, int n) {
        int best = HoopWaist.NOT;
        int most = 0;
        int all = p.m.hoops.size();
        for (int bits = 1; bits < 1 << all; bits++) {
            Model m = p.m.copy();
            boolean up = true;
            for (int i = 0; i < all; i++) {
                if ((bits >> i & 1) == 0) {
                    m.hoops.get(i)[4] = 0;
                    m.hoops.get(i)[2] = 0;
                } else {
                    up = up && !m.lies(i);
                }
            }
            if (up && Integer.bitCount(bits) > most && m.lasts() >= n) {
                most = Integer.bitCount(bits);
                best = bits;
            }
        }
        Due.same(at + "held for " + n, p.x.held(n), best);
    }

    // Promise 18
    private static void rescue(Pair p, String at, Random r) {
        for (int i = 0; i < p.m.hoops.size(); i++) {
            int force = 1 + r.nextInt(5);
            int goal = r.nextInt(24);
            int falls = p.m.falls(i);
            int want = HoopWaist.NOT;
            for (int tick = 99; tick >= 0; tick--) {
                int later = fallsWith(p.m, i, tick, force, goal);
                want = later == HoopWaist.NOT || later > falls ? tick : want;
            }
            want = falls == 0 || falls == HoopWaist.NOT ? HoopWaist.STATE : want;
            Due.same(at + "rescue " + i, p.x.rescue(i, 100 * force + goal), want);
        }
    }

    private static int fallsWith(Model start, int hoop, int tick, int force, int place) {
        Model m = start.copy();
        for (int k = 0; k <= 200; k++) {
            if (m.lies(hoop)) {
                return k;
            }
            int goal = m.goal();
            if (goal >= 0) {
                m.push(m.strength, goal);
            }
            if (k == tick) {
                m.push(force, place);
            }
            m.settle();
        }
        return HoopWaist.NOT;
    }

    // Promise 19
    private static void start(Pair p, String at) {
        for (int i = 0; i < p.m.hoops.size(); i++) {
            int best = 0;
            int latest = -1;
            for (int pace = -9; pace <= 9; pace++) {
                Model m = p.m.copy();
                m.hoops.get(i)[2] = pace;
                int falls = m.falls(i);
                falls = falls == HoopWaist.NOT ? 1000 : falls;
                if (falls > latest) {
                    latest = falls;
                    best = pace;
                }
            }
            Due.same(at + "start " + i, p.x.start(i), p.m.lies(i) ? HoopWaist.STATE : best);
        }
    }

    private static void caughtFromNow() {
        HoopWaist x = new HoopWaist();
        x.hoop(19);
        x.mend(0, 3, 0);
        x.go(1);
        Due.same("at 20 by a pace of 6", x.of(0, 4), 20);
        x.mend(0, 2, 4);
        x.go(1);
        Due.same("below 20 now", x.of(0, 4), 18);
        x.mend(0, 2, 9);
        Pair.tell(x, "9");
        Due.same("caught again", x.mistake(0, 1), 2);
        x.go(2);
        Due.same("never below", x.mistake(0, 1), 0);
    }

    private static void caughtLying() {
        HoopWaist x = new HoopWaist();
        x.hoop(11);
        x.go(200);
        x.hoop(99);
        x.mend(0, 3, 0);
        Pair.tell(x, "9");
        Due.same("one lies, so that not all are at 20", x.mistake(0, 1), HoopWaist.NOT);
        Due.same("the other lasts", x.mistake(0, 0), 200);
    }

    /** Each push takes 1 of the pace, so that the longest beat, begun latest, is the best. */
    private static void theLongestBeat() {
        HoopWaist x = new HoopWaist();
        x.hoop(99);
        x.mend(0, 3, 0);
        x.mend(0, 2, 7);
        Pair.tell(x, "0-1");
        Due.same("the longest beat", x.beatFor(0), 2423);
        Due.same("it lasts", x.beatFor(1), 176);
        Due.same("the beat stays", x.of(0, 11) * 100 + x.of(0, 12), 600);
    }

    /** Each push takes 1 of the pace, the eighth (at PHASE and 168) the last of it: ten ticks more, and it lies. */
    private static void edgesOfTwoHundred() {
        for (int phase = 20; phase <= 23; phase++) {
            HoopWaist x = new HoopWaist();
            x.hoop(99);
            x.mend(0, 3, 0);
            x.mend(0, 2, 8);
            x.mend(0, 4, 24);
            x.mend(0, 5, phase);
            Pair.tell(x, "0-1");
            int falls = phase + 178;
            Due.same("falls, phase " + phase, x.falls(0), falls > 200 ? HoopWaist.NOT : falls);
            Due.same("lasts, phase " + phase, x.lasts(), falls - 1);
            Due.same("high behind 200, phase " + phase, x.then(0, 200, 2), falls > 200 ? 2 : 0);
            Due.same("held for 200, phase " + phase, x.held(200), falls > 200 ? 1 : HoopWaist.NOT);
            Due.same("held for 199, phase " + phase, x.held(199), falls > 199 ? 1 : HoopWaist.NOT);
            Due.same("a mistake saves it, phase " + phase, x.mistake(7, 0), 200);
            Due.same("a mistake too late, phase " + phase, x.mistake(8, 0), falls - 1);
            Due.same("rescue, phase " + phase, x.rescue(0, 100), falls > 200 ? HoopWaist.STATE : HoopWaist.NOT);
        }
        Pair p = new Pair();
        p.hoop(6, 6);
        p.pace(0, 5);
        p.beat(7, 2);
        p.law("v<4?3;n=8?1");
        Due.same("caught just behind 200, by the model", mistaken(p.m, 40)[1], 200);
        Due.same("caught just behind 200", p.x.mistake(40, 1), 200);
        HoopWaist y = new HoopWaist();
        y.hoop(99);
        y.mend(0, 3, 0);
        Pair.tell(y, "0");
        Due.same("it never falls", y.falls(0), HoopWaist.NOT);
        Due.same("it lasts", y.lasts(), 200);
        Due.same("it needs no rescue", y.rescue(0, 100), HoopWaist.STATE);
        Due.same("held", y.held(200), 1);
    }
}
