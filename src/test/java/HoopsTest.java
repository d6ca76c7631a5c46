/** Promises 1 to 5 and 8 to 10: a new object, hoops, settings, ticks in deed, lift, led. */
public final class HoopsTest {
    public static void main(String[] args) {
        aNewObject();
        hoop();
        hoops();
        hoopsEnd();
        mendHoops();
        mendSettings();
        of();
        go();
        crossing();
        lift();
        led();
        Due.end();
    }

    // Promise 1
    private static void aNewObject() {
        HoopWaist x = new HoopWaist();
        for (int what = 0; what <= 5; what++) {
            Due.same("count(" + what + ") at first", x.count(what), 0);
        }
        int[] first = {1, 6, 0, 2, 1, 0};
        for (int what = 10; what <= 15; what++) {
            Due.same("of(0, " + what + ") at first", x.of(0, what), first[what - 10]);
        }
        for (int girl = 0; girl < 25; girl++) {
            Due.same("skill at first", x.of(girl, 20), 9);
            Due.same("minutes at first", x.of(girl, 21), 0);
        }
        Due.same("no pushes at first", x.led(0), 0);
        Due.same("no fall at first", x.led(1), HoopWaist.NOT);
        Due.same("no image at first", x.back(), HoopWaist.STATE);
        Due.same("no trace at first", x.trace(0), HoopWaist.BAD);
        for (int shelf = 0; shelf < 6; shelf++) {
            Due.same("nothing on a shelf at first", x.taken(shelf, 0), -11);
        }
    }

    // Promise 2
    private static void hoop() {
        HoopWaist x = new HoopWaist();
        for (int sh : new int[] {Integer.MIN_VALUE, -53, -1, 0, 1, 9, 10, 20, 90, 100, 101, 110, 153, Integer.MAX_VALUE}) {
            Due.same("hoop(" + sh + ")", x.hoop(sh), HoopWaist.BAD);
        }
        Due.same("hoop(11)", x.hoop(11), 0);
        Due.same("hoop(99)", x.hoop(99), 1);
        Due.same("hoop(53)", x.hoop(53), 2);
        int[] want = {5, 3, 4, 0, 20, 3};
        for (int what = 0; what <= 5; what++) {
            Due.same("of(2, " + what + ")", x.of(2, what), want[what]);
        }
        x.hoop(19);
        x.hoop(91);
        Due.same("a sixth", x.hoop(55), HoopWaist.FULL);
        Due.same("a sixth that is bad", x.hoop(50), HoopWaist.BAD);
        Due.same("count(0)", x.count(0), 5);
    }

    private static void lay(HoopWaist x, int shelf, int... bytes) {
        x.row(shelf, 0, bytes.length);
        for (int i = 0; i < bytes.length; i++) {
            x.put(shelf, i, bytes[i]);
        }
    }

    // Promise 3
    private static void hoops() {
        HoopWaist x = new HoopWaist();
        lay(x, 2, 7, 4, 3, -5, 1, 9, 9);
        Due.same("hoops(-1, 0, 1)", x.hoops(-1, 0, 1), HoopWaist.BAD);
        Due.same("hoops(6, 0, 1)", x.hoops(6, 0, 1), HoopWaist.BAD);
        Due.same("hoops(2, 0, 0)", x.hoops(2, 0, 0), HoopWaist.BAD);
        Due.same("hoops(2, 0, 6)", x.hoops(2, 0, 6), HoopWaist.BAD);
        Due.same("a missing row", x.hoops(0, 0, 2), 0);
        x.row(0, 1, 6);
        Due.same("a row of shorts", x.hoops(0, 0, 2), -12);
        Due.same("a row of shorts, n bad", x.hoops(0, 0, 0), HoopWaist.BAD);
        x.body(0);
        x.keep(1, 0);
        Due.same("a turn", x.hoops(1, 0, 2), -12);
        Due.same("none came", x.count(0), 0);
        Due.same("one of them", x.hoops(2, 1, 1), 1);
        Due.same("size", x.of(0, 0), 4);
        Due.same("heavy", x.of(0, 1), 3);
        Due.same("pace", x.of(0, 2), -5);
        Due.same("place", x.of(0, 3), 0);
        Due.same("high", x.of(0, 4), 20);
        Due.same("the rest", x.hoops(2, 4, 5), 1);
        Due.same("pace of 9", x.of(1, 2), 9);
        Due.same("hoops that came are no changes", x.count(3), 0);
    }

    private static void hoopsEnd() {
        HoopWaist x = new HoopWaist();
        lay(x, 0, 1, 1, 0, 2, 2, -9, 3, 3);
        Due.same("it ends within a three", x.hoops(0, 0, 5), 2);
        Due.same("it ends before", x.hoops(0, 8, 1), 0);
        Due.same("far behind its end", x.hoops(0, Integer.MAX_VALUE, 5), 0);
        Due.same("ahead of its start", x.hoops(0, -1, 5), 0);
        Due.same("count(0)", x.count(0), 2);
        int[][] unlike = {{0, 1, 1}, {10, 1, 1}, {1, 0, 1}, {1, 10, 1}, {1, 1, -10}, {1, 1, 10}, {-1, 1, 1}};
        for (int[] u : unlike) {
            HoopWaist y = new HoopWaist();
            lay(y, 3, 5, 5, 5, u[0], u[1], u[2], 5, 5, 5);
            Due.same("the second is not so", y.hoops(3, 0, 3), 1);
            Due.same("those ahead came", y.count(0), 1);
        }
        HoopWaist w = new HoopWaist();
        w.row(1, 0, 60);
        for (int i = 0; i < 60; i++) {
            w.put(1, i, 1 + i % 9);
        }
        Due.same("the last three of sixty", w.hoops(1, 57, 2), 1);
        Due.same("their size", w.of(0, 0), 4);
        w.keep(1, -1);
        Due.same("the row is missing now", w.hoops(1, 0, 2), 0);
        HoopWaist z = new HoopWaist();
        lay(z, 5, 1, 1, 1, 2, 2, 2, 3, 3, 3, 4, 4, 4, 5, 5, 5);
        z.hoop(88);
        z.hoop(99);
        Due.same("until they are full", z.hoops(5, 0, 5), 3);
        Due.same("the last of them", z.of(4, 0), 3);
        Due.same("full already", z.hoops(5, 0, 5), 0);
    }

    // Promise 4
    private static void mendHoops() {
        HoopWaist x = new HoopWaist();
        x.hoop(46);
        Due.same("size", x.mend(0, 0, 9), 4);
        Due.same("size again", x.mend(0, 0, 1), 9);
        Due.same("heavy", x.mend(0, 1, 9), 6);
        Due.same("pace", x.mend(0, 2, -9), 4);
        Due.same("pace again", x.mend(0, 2, 9), -9);
        int[][] bad = {{0, 0, 0}, {0, 0, 10}, {0, 1, 0}, {0, 1, 10}, {0, 2, -10}, {0, 2, 10}, {1, 0, 5}, {-1, 0, 5},
            {5, 1, 5}, {0, -1, 5}, {0, 8, 1}, {0, Integer.MIN_VALUE, 1}, {0, Integer.MAX_VALUE, 1}};
        for (int[] b : bad) {
            Due.same("mend(" + b[0] + ", " + b[1] + ", " + b[2] + ")", x.mend(b[0], b[1], b[2]), HoopWaist.VOID);
        }
        Due.same("changes", x.count(3), 5);
        Due.same("what stands", x.of(0, 0) * 10000 + x.of(0, 1) * 100 + x.of(0, 2), 10909);
        x.mend(0, 2, 0);
        x.mend(0, 6, 0);
        x.go(10);
        Due.same("it lies", x.of(0, 4), 0);
        Due.same("pace of one that lies", x.mend(0, 2, 1), HoopWaist.VOID);
        Due.same("pace 0 of one that lies", x.mend(0, 2, 0), 0);
        Due.same("size of one that lies", x.mend(0, 0, 3), 1);
    }

    private static void mendSettings() {
        HoopWaist x = new HoopWaist();
        int[] least = {0, 2, 0, 0, 0};
        int[] most = {3, 24, 23, 5, 12};
        int[] first = {1, 6, 0, 2, 1};
        for (int what = 3; what <= 7; what++) {
            int i = what - 3;
            Due.same("below " + what, x.mend(0, what, least[i] - 1), HoopWaist.VOID);
            Due.same("above " + what, x.mend(0, what, most[i] + 1), HoopWaist.VOID);
            Due.same("another number " + what, x.mend(1, what, least[i]), HoopWaist.VOID);
            Due.same("a number below 0 " + what, x.mend(-1, what, least[i]), HoopWaist.VOID);
            Due.same("most " + what, x.mend(0, what, most[i]), first[i]);
            Due.same("told " + what, x.of(0, what + 7), most[i]);
        }
        Due.same("a shorter beat", x.mend(0, 4, 2), 24);
        Due.same("the phase as told", x.of(0, 12), 23);
        Due.same("a phase of beat", x.mend(0, 5, 2), HoopWaist.VOID);
        x.go(1);
        Due.same("23 by 2 leaves 1: no push at 0", x.led(0), 0);
        x.go(1);
        Due.same("a push at 1", x.led(0), 1);
        Due.same("a phase below beat", x.mend(0, 5, 1), 23);
    }

    // Promise 5
    private static void of() {
        HoopWaist x = new HoopWaist();
        int[] need = {5, 5, 4, 4, 3, 3, 2, 2, 1};
        x.hoop(11);
        for (int size = 1; size <= 9; size++) {
            x.mend(0, 0, size);
            Due.same("need of size " + size, x.of(0, 5), need[size - 1]);
        }
        int[][] bad = {{-1, 0}, {1, 0}, {5, 3}, {0, -1}, {0, 6}, {0, 9}, {1, 10}, {-1, 15}, {0, 16}, {0, 19},
            {-1, 20}, {25, 20}, {25, 21}, {0, 22}, {0, Integer.MIN_VALUE}, {Integer.MAX_VALUE, 0}};
        for (int[] b : bad) {
            Due.same("of(" + b[0] + ", " + b[1] + ")", x.of(b[0], b[1]), HoopWaist.VOID);
        }
    }

    // Promise 8
    private static void go() {
        HoopWaist x = new HoopWaist();
        for (int n : new int[] {Integer.MIN_VALUE, -1, 0, 201, Integer.MAX_VALUE}) {
            Due.same("go(" + n + ")", x.go(n), HoopWaist.BAD);
        }
        Due.same("now", x.of(0, 15), 0);
        Due.same("go(200) without hoops", x.go(200), 0);
        Due.same("now", x.of(0, 15), 200);
        for (int seed = 0; seed < 300; seed++) {
            Pair p = Pair.random(new java.util.Random(seed));
            compare(p, seed);
            p.go(1 + seed % 30);
            compare(p, seed);
        }
    }

    private static void compare(Pair p, int seed) {
        int up = 0;
        for (int i = 0; i < p.m.hoops.size(); i++) {
            int[] h = p.m.hoops.get(i);
            Due.same(seed + " pace", p.x.of(i, 2), h[2]);
            Due.same(seed + " place", p.x.of(i, 3), h[3]);
            Due.same(seed + " high", p.x.of(i, 4), h[4]);
            up += h[4] > 0 ? 1 : 0;
        }
        Due.same(seed + " up", p.x.count(1), up);
        Due.same(seed + " now", p.x.of(0, 15), p.m.now);
    }

    private static void crossing() {
        HoopWaist x = new HoopWaist();
        x.hoop(99);
        x.hoop(99);
        x.hoop(99);
        x.mend(0, 6, 0);
        Due.same("three in one place", x.go(1), 3);
        Due.same("two less each", x.of(0, 2) * 100 + x.of(1, 2) * 10 + x.of(2, 2), 222);
        x.mend(1, 2, -1);
        x.mend(2, 2, 0);
        x.go(1);
        Due.same("places apart", x.of(0, 3) * 10000 + x.of(1, 3) * 100 + x.of(2, 3), 60304);
        Due.same("no crossing apart", x.of(0, 2), 2);
        Due.same("a pace below 0 keeps its sign", x.of(1, 2), -1);
    }

    // Promise 9
    private static void lift() {
        HoopWaist x = new HoopWaist();
        x.hoop(12);
        x.hoop(98);
        Due.same("lift(2)", x.lift(2), HoopWaist.BAD);
        Due.same("lift(-1)", x.lift(-1), HoopWaist.BAD);
        Due.same("it does not lie", x.lift(0), HoopWaist.STATE);
        x.go(13);
        Due.same("it lies", x.of(0, 4), 0);
        Due.same("lift(0)", x.lift(0), 0);
        Due.same("as at first", x.of(0, 2) * 10000 + x.of(0, 3) * 100 + x.of(0, 4), 40020);
        Due.same("the other is as it was", x.lift(1), HoopWaist.STATE);
        Due.same("no change", x.count(3), 0);
    }

    // Promise 10
    private static void led() {
        HoopWaist x = new HoopWaist();
        for (int what : new int[] {-1, 2, Integer.MIN_VALUE, Integer.MAX_VALUE}) {
            Due.same("led(" + what + ")", x.led(what), HoopWaist.BAD);
        }
        x.mend(0, 6, 0);
        x.go(6);
        Due.same("a push of strength 0 counts", x.led(0), 1);
        x.go(1);
        Due.same("the next at 6", x.led(0), 2);
        x.hoop(11);
        x.lasts();
        x.then(0, 200, 0);
        Due.same("thought leads nothing", x.led(0), 2);
        int falls = x.falls(0);
        int now = x.of(0, 15);
        x.go(falls - 1);
        Due.same("no fall yet", x.led(1), HoopWaist.NOT);
        x.go(1);
        Due.same("the tick of the fall", x.led(1), now + falls - 1);
        x.go(50);
        Due.same("it stays the latest", x.led(1), now + falls - 1);
    }
}
