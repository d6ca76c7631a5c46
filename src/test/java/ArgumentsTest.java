import java.util.function.IntFunction;

/** Each argument of each call: its least and its most are taken; what is just or far beyond is BAD, as the promise says. */
public final class ArgumentsTest {
    private static final long NO_LONG = Long.MIN_VALUE;

    public static void main(String[] args) {
        hoops();
        mend();
        of();
        pushes();
        thought();
        music();
        field();
        turns();
        shelves();
        Due.end();
    }

    /** Five hoops that do not lie, two bodies, a row of three bytes on each shelf. */
    private static HoopWaist full() {
        HoopWaist x = new HoopWaist();
        for (int i = 0; i < 5; i++) {
            x.hoop(55);
        }
        x.body(0);
        x.body(7);
        for (int shelf = 0; shelf < 6; shelf++) {
            x.row(shelf, 0, 3);
        }
        return x;
    }

    private static void range(String what, long bad, int least, int most, IntFunction<Long> call) {
        for (int v = least; v <= most; v++) {
            long answer = call.apply(v);
            Due.holds(what + " " + v + " is taken, not " + answer, answer != bad);
        }
        int[] beyond = {least - 1, most + 1, least - 100, most + 100, Integer.MIN_VALUE, Integer.MAX_VALUE};
        for (int v : beyond) {
            Due.same(what + " " + v, call.apply(v), bad);
        }
    }

    // Promises 2 and 3
    private static void hoops() {
        for (int sh = -300; sh <= 1200; sh++) {
            boolean fine = sh > 10 && sh < 100 && sh % 10 > 0;
            Due.same("hoop(" + sh + ")", new HoopWaist().hoop(sh), fine ? 0 : Bench.BAD);
        }
        range("hoops, shelf", Bench.BAD, 0, 5, v -> (long) new HoopWaist().hoops(v, 0, 1));
        range("hoops, n", Bench.BAD, 1, 5, v -> (long) new HoopWaist().hoops(0, 0, v));
        range("hoops of a row, n", Bench.BAD, 1, 5, v -> (long) full().hoops(0, 0, v));
    }

    // Promise 4
    private static void mend() {
        for (int what = 0; what <= 2; what++) {
            int w = what;
            range("mend " + what + ", number", Bench.VOID, 0, 4, v -> (long) full().mend(v, w, 5));
        }
        for (int what = 3; what <= 7; what++) {
            int w = what;
            range("mend " + what + ", number", Bench.VOID, 0, 0, v -> (long) full().mend(v, w, 2));
        }
        range("mend, what", Bench.VOID, 0, 7, v -> (long) full().mend(0, v, 2));
        int[] least = {1, 1, -9, 0, 2, 0, 0, 0};
        int[] most = {9, 9, 9, 3, 24, 5, 5, 12};
        for (int what = 0; what <= 7; what++) {
            int w = what;
            range("mend " + what + ", v", Bench.VOID, least[w], most[w], v -> (long) full().mend(0, w, v));
        }
        for (int beat = 2; beat <= 24; beat++) {
            HoopWaist x = new HoopWaist();
            x.mend(0, 4, beat);
            range("PHASE of BEAT " + beat, Bench.VOID, 0, beat - 1, v -> (long) x.mend(0, 5, v));
        }
        HoopWaist lying = Bench.calm(99);
        Bench.sink(lying, 0);
        range("PACE of one that lies", Bench.VOID, 0, 0, v -> (long) lying.mend(0, 2, v));
        Due.same("a hoop that is not there", new HoopWaist().mend(0, 0, 5), Bench.VOID);
    }

    // Promise 5
    private static void of() {
        for (int what = -30; what <= 60; what++) {
            boolean hoop = what >= 0 && what <= 5;
            boolean setting = what >= 10 && what <= 15;
            boolean girl = what == 20 || what == 21;
            int most = hoop ? 4 : setting ? 0 : girl ? 24 : -1;
            int w = what;
            range("of " + what, Bench.VOID, 0, most, v -> (long) full().of(v, w));
        }
        Due.same("a hoop that is not there", new HoopWaist().of(0, 0), Bench.VOID);
        Due.same("the number behind the last", Bench.calm(99).of(1, 4), Bench.VOID);
    }

    // Promises 6 and 8 to 10
    private static void pushes() {
        range("feed", Bench.BAD, 0, 255, v -> (long) new HoopWaist().feed(v));
        range("go", Bench.BAD, 1, 200, v -> (long) full().go(v));
        range("lift", Bench.BAD, 0, 4, v -> (long) full().lift(v));
        range("led", Bench.BAD, 0, 1, v -> (long) full().led(v));
        Due.same("lift, no hoops", new HoopWaist().lift(0), Bench.BAD);
    }

    // Promises 11 to 19
    private static void thought() {
        range("then, hoop", Bench.VOID, 0, 4, v -> (long) full().then(v, 1, 0));
        range("then, k", Bench.VOID, 0, 200, v -> (long) full().then(4, v, 0));
        range("then, what", Bench.VOID, 0, 2, v -> (long) full().then(4, 1, v));
        range("falls", Bench.BAD, 0, 4, v -> (long) full().falls(v));
        range("beatFor", Bench.BAD, 0, 1, v -> (long) full().beatFor(v));
        range("leastPush", Bench.BAD, 1, 200, v -> (long) full().leastPush(v));
        range("mistake, m", Bench.BAD, 0, 40, v -> (long) full().mistake(v, 0));
        range("mistake, what", Bench.BAD, 0, 1, v -> (long) full().mistake(40, v));
        range("held", Bench.BAD, 1, 200, v -> (long) full().held(v));
        range("rescue, hoop", Bench.BAD, 0, 4, v -> (long) full().rescue(v, 523));
        for (int fp = -700; fp <= 1200; fp++) {
            boolean fine = fp >= 100 && fp <= 523 && fp % 100 <= 23;
            Due.same("rescue, fp " + fp, full().rescue(0, fp) == Bench.BAD ? 1 : 0, fine ? 0 : 1);
        }
        Due.same("rescue, the least fp", full().rescue(0, Integer.MIN_VALUE), Bench.BAD);
        Due.same("rescue, the most fp", full().rescue(0, Integer.MAX_VALUE), Bench.BAD);
        range("start", Bench.VOID, 0, 4, v -> (long) full().start(v));
        HoopWaist none = new HoopWaist();
        Due.same("then, no hoops", none.then(0, 0, 0), Bench.VOID);
        Due.same("falls, no hoops", none.falls(0), Bench.BAD);
        Due.same("rescue, no hoops", none.rescue(0, 100), Bench.BAD);
        Due.same("start, no hoops", none.start(0), Bench.VOID);
    }

    // Promises 20 to 22
    private static void music() {
        HoopWaist x = full();
        range("music", Bench.BAD, 0, 5, v -> (long) x.music(v));
        range("judge, shelf", Bench.BAD, 0, 5, v -> (long) x.judge(v, 0));
        range("judge, hoop", Bench.BAD, 0, 4, v -> (long) x.judge(5, v));
        range("begun, shelf", Bench.VOID, 0, 5, v -> (long) x.begun(v, 0, 1));
        range("begun, hoop", Bench.VOID, 0, 4, v -> (long) x.begun(5, v, 1));
        range("begun, what", Bench.VOID, 0, 1, v -> (long) x.begun(5, 4, v));
    }

    // Promises 23 to 29
    private static void field() {
        HoopWaist x = new HoopWaist();
        range("skill, girl", Bench.BAD, 0, 24, v -> (long) x.skill(v, 5));
        range("skill, v", Bench.BAD, 0, 12, v -> (long) x.skill(24, v));
        range("left, n", Bench.BAD, 1, 30, v -> (long) x.left(-1, v, -1));
        range("left, girl", Bench.BAD, -1, 24, v -> (long) x.left(-1, 30, v));
        range("knocked, n", Bench.BAD, 1, 30, v -> (long) x.knocked(-1, v, 0));
        range("knocked, girl", Bench.BAD, 0, 24, v -> (long) x.knocked(-1, 30, v));
        range("last", Bench.BAD, 0, 1, v -> (long) x.last(-1, v));
        range("alone, girl", NO_LONG, 0, 24, v -> x.alone(v, 8, 1));
        range("alone, y", NO_LONG, 0, 8, v -> x.alone(24, v, 1));
        range("alone, part", NO_LONG, 0, 1, v -> x.alone(24, 8, v));
        range("learn, girl", Bench.BAD, 0, 24, v -> (long) x.learn(v, 1));
        range("learn, n", Bench.BAD, 1, 99, v -> (long) x.learn(24, v));
        range("till, girl", Bench.BAD, 0, 24, v -> (long) x.till(v, 12));
        range("till, v", Bench.BAD, 0, 12, v -> (long) x.till(0, v));
        int[] seeds = {Integer.MIN_VALUE, -1, 0, Integer.MAX_VALUE};
        for (int seed : seeds) {
            Due.holds("any SEED", x.left(seed, 30, -1) >= 0 && x.last(seed, 0) >= 0);
        }
    }

    // Promises 34 to 36
    private static void turns() {
        range("body", Bench.BAD, 0, 7, v -> (long) new HoopWaist().body(v));
        range("act, body", 0, 0, 1, v -> (long) full().act(v, 0, 77));
        range("act, act", 0, 0, 3, v -> (long) full().act(1, v, 77));
        HoopWaist x = full();
        x.act(1, 3, 5);
        range("trace", Bench.BAD, 0, 13, v -> (long) x.trace(v));
        x.act(0, 0, 5);
        range("trace of one", Bench.BAD, 0, 0, v -> (long) x.trace(v));
    }

    // Promises 37 to 43
    private static void shelves() {
        range("keep, shelf", Bench.BAD, 0, 5, v -> (long) full().keep(v, 1));
        range("keep, body", Bench.BAD, -1, 1, v -> (long) full().keep(5, v));
        range("row, shelf", Bench.BAD, 0, 5, v -> (long) full().row(v, 0, 60));
        range("row, sort", Bench.BAD, 0, 4, v -> (long) full().row(5, v, 60));
        for (int n = -70; n <= 70; n++) {
            Due.same("row, n " + n, full().row(5, 4, n), n < 0 ? -14 : n > 60 ? Bench.BAD : 1);
        }
        range("put, shelf", Bench.BAD, 0, 5, v -> (long) full().put(v, 2, 1));
        range("put, i", -13, 0, 2, v -> (long) full().put(5, v, 1));
        range("element, shelf", NO_LONG, 0, 5, v -> full().element(v, 2));
        range("element, i", NO_LONG, 0, 2, v -> full().element(5, v));
        range("shift, shelf", Bench.BAD, 0, 5, v -> (long) full().shift(v, 0, 5, 0, 3));
        range("shift, other", Bench.BAD, 0, 5, v -> (long) full().shift(5, 0, v, 0, 3));
        range("shift, i", -13, 0, 2, v -> (long) full().shift(5, v, 4, 0, 1));
        range("shift, j", -13, 0, 2, v -> (long) full().shift(5, 0, 4, v, 1));
        range("shift, n", -13, 0, 3, v -> (long) full().shift(5, 0, 4, 0, v));
        range("taken, shelf", Bench.BAD, 0, 5, v -> (long) full().taken(v, 7));
        range("taken, k", Bench.BAD, 0, 7, v -> (long) full().taken(5, v));
        range("count", Bench.BAD, 0, 5, v -> (long) full().count(v));
    }
}
