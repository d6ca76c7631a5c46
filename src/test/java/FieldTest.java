import java.math.BigInteger;
import java.util.Random;

/** Promises 23 to 29: the field of girls, and learning. */
public final class FieldTest {
    private static final int[] EDGES = {Integer.MIN_VALUE, -2, -1, 25, Integer.MAX_VALUE};

    public static void main(String[] args) {
        skill();
        wrongInputs();
        sureThings();
        Random r = new Random(3);
        for (int i = 0; i < 200; i++) {
            randomField(r);
        }
        alone();
        learn();
        till();
        Due.end();
    }

    // Promise 23
    private static void skill() {
        HoopWaist x = new HoopWaist();
        for (int girl : EDGES) {
            Due.same("skill(" + girl + ", 5)", x.skill(girl, 5), HoopWaist.BAD);
        }
        for (int v : new int[] {Integer.MIN_VALUE, -1, 13, Integer.MAX_VALUE}) {
            Due.same("skill(0, " + v + ")", x.skill(0, v), HoopWaist.BAD);
        }
        Due.same("skill(24, 0)", x.skill(24, 0), 9);
        Due.same("skill(24, 12)", x.skill(24, 12), 0);
        Due.same("of(24, 20)", x.of(24, 20), 12);
        Due.same("the others", x.of(23, 20), 9);
        Due.same("no change", x.count(3), 0);
        Due.same("none to undo", x.undo(), HoopWaist.STATE);
    }

    private static void wrongInputs() {
        HoopWaist x = new HoopWaist();
        for (int n : new int[] {Integer.MIN_VALUE, -1, 0, 31, Integer.MAX_VALUE}) {
            Due.same("left, n " + n, x.left(1, n, -1), HoopWaist.BAD);
            Due.same("knocked, n " + n, x.knocked(1, n, 0), HoopWaist.BAD);
        }
        for (int girl : EDGES) {
            if (girl != -1) {
                Due.same("left, girl " + girl, x.left(1, 1, girl), HoopWaist.BAD);
            }
            Due.same("knocked, girl " + girl, x.knocked(1, 1, girl), HoopWaist.BAD);
            Due.same("alone, girl " + girl, x.alone(girl, 1, 0), Long.MIN_VALUE);
            Due.same("learn, girl " + girl, x.learn(girl, 1), HoopWaist.BAD);
            Due.same("till, girl " + girl, x.till(girl, 1), HoopWaist.BAD);
        }
        for (int b : new int[] {Integer.MIN_VALUE, -1, 2, Integer.MAX_VALUE}) {
            Due.same("last, what " + b, x.last(1, b), HoopWaist.BAD);
            Due.same("alone, part " + b, x.alone(0, 1, b), Long.MIN_VALUE);
        }
        for (int b : new int[] {Integer.MIN_VALUE, -1, 9, Integer.MAX_VALUE}) {
            Due.same("alone, y " + b, x.alone(0, b, 0), Long.MIN_VALUE);
        }
        for (int b : new int[] {Integer.MIN_VALUE, -1, 0, 100, Integer.MAX_VALUE}) {
            Due.same("learn, n " + b, x.learn(0, b), HoopWaist.BAD);
        }
        for (int b : new int[] {Integer.MIN_VALUE, -1, 13, Integer.MAX_VALUE}) {
            Due.same("till, v " + b, x.till(0, b), HoopWaist.BAD);
        }
    }

    private static void sureThings() {
        HoopWaist x = new HoopWaist();
        for (int girl = 0; girl < 25; girl++) {
            x.skill(girl, 12);
        }
        Due.same("all are left", x.left(99, 30, -1), 25);
        Due.same("the last, of like ones the least", x.last(99, 0), 0);
        Due.same("it does not drop", x.last(99, 1), 31);
        x.mend(0, 7, 12);
        x.skill(12, 0);
        Due.same("one drops and knocks all four beside", x.left(99, 1, -1), 20);
        for (int beside : new int[] {7, 11, 13, 17}) {
            Due.same("who knocked " + beside, x.knocked(99, 1, beside), 12);
            Due.same(beside + " is not left", x.left(99, 1, beside), 0);
        }
        Due.same("who knocked 12", x.knocked(99, 1, 12), HoopWaist.NOT);
        Due.same("who knocked 6", x.knocked(99, 1, 6), HoopWaist.NOT);
        Due.same("6 is left", x.left(99, 1, 6), 1);
        Due.same("a knocked one knocks nobody", x.left(99, 30, -1), 20);
        x.skill(12, 12);
        x.skill(4, 0);
        Due.same("at a corner two are beside", x.left(-7, 3, -1), 22);
        Due.same("east of 4 there is nobody", x.knocked(-7, 3, 5), HoopWaist.NOT);
        x.mend(0, 7, 0);
        Due.same("no knocks", x.left(-7, 30, -1), 24);
        Due.same("the last", x.last(-7, 0), 0);
    }

    // Promises 24 to 26
    private static void randomField(Random r) {
        HoopWaist x = new HoopWaist();
        int[] skill = new int[25];
        for (int girl = 0; girl < 25; girl++) {
            skill[girl] = r.nextInt(3) == 0 ? r.nextInt(13) : 12 - r.nextInt(3);
            x.skill(girl, skill[girl]);
        }
        int knock = r.nextInt(13);
        x.mend(0, 7, knock);
        int seed = r.nextInt();
        int[] minute = new int[25];
        int[] by = new int[25];
        play(skill, knock, seed, minute, by);
        int n = 1 + r.nextInt(30);
        int many = 0;
        int last = 24;
        for (int girl = 24; girl >= 0; girl--) {
            boolean up = minute[girl] > n;
            many += up ? 1 : 0;
            Due.same("left " + girl, x.left(seed, n, girl), up ? 1 : 0);
            Due.same("knocked " + girl, x.knocked(seed, n, girl), up ? HoopWaist.NOT : by[girl]);
            last = minute[girl] >= minute[last] ? girl : last;
        }
        Due.same("left", x.left(seed, n, -1), many);
        Due.same("last", x.last(seed, 0), last);
        Due.same("last, minutes", x.last(seed, 1), minute[last]);
    }

    private static void play(int[] skill, int knock, int seed, int[] minute, int[] by) {
        BigInteger z = BigInteger.valueOf(seed);
        java.util.Arrays.fill(minute, 31);
        java.util.Arrays.fill(by, HoopWaist.NOT);
        int[] rows = {-1, 0, 1, 0};
        int[] columns = {0, 1, 0, -1};
        for (int now = 1; now <= 30; now++) {
            for (int girl = 0; girl < 25; girl++) {
                if (minute[girl] < 31) {
                    continue;
                }
                z = next(z);
                if (drawn(z) < skill[girl]) {
                    continue;
                }
                minute[girl] = now;
                for (int d = 0; d < 4; d++) {
                    int row = girl / 5 + rows[d];
                    int column = girl % 5 + columns[d];
                    if (row < 0 || row > 4 || column < 0 || column > 4 || minute[5 * row + column] < 31) {
                        continue;
                    }
                    z = next(z);
                    if (drawn(z) < knock) {
                        minute[5 * row + column] = now;
                        by[5 * row + column] = girl;
                    }
                }
            }
        }
    }

    private static BigInteger next(BigInteger z) {
        return z.multiply(BigInteger.valueOf(1103515245)).add(BigInteger.valueOf(12345)).mod(BigInteger.TWO.pow(32));
    }

    private static int drawn(BigInteger z) {
        return z.shiftRight(8).mod(BigInteger.valueOf(12)).intValue();
    }

    // Promise 27
    private static void alone() {
        HoopWaist x = new HoopWaist();
        for (int skill = 0; skill <= 12; skill++) {
            x.skill(3, skill);
            for (int y = 0; y <= 8; y++) {
                BigInteger above = BigInteger.valueOf(skill).pow(y);
                BigInteger below = BigInteger.valueOf(12).pow(y);
                BigInteger shared = above.gcd(below);
                Due.same("above, skill " + skill + " y " + y, x.alone(3, y, 0), above.divide(shared).longValue());
                Due.same("below, skill " + skill + " y " + y, x.alone(3, y, 1), below.divide(shared).longValue());
            }
        }
        Due.same("9 of 12 by 8", x.alone(0, 8, 0), 6561);
        Due.same("9 of 12 by 8, below", x.alone(0, 8, 1), 65536);
    }

    // Promise 28
    private static void learn() {
        HoopWaist x = new HoopWaist();
        Due.same("8 minutes at 9", x.learn(0, 8), 9);
        Due.same("they count", x.of(0, 21), 8);
        Due.same("the ninth", x.learn(0, 1), 10);
        Due.same("from anew", x.of(0, 21), 0);
        Due.same("over two steps", x.learn(0, 20), 11);
        Due.same("ten count on", x.of(0, 21), 10);
        Due.same("up to 12", x.learn(0, 99), 12);
        Due.same("at 12 none count", x.of(0, 21), 0);
        Due.same("still", x.learn(0, 1), 12);
        Due.same("none", x.of(0, 21), 0);
        x.skill(1, 0);
        Due.same("at 0 a minute is enough", x.learn(1, 1), 1);
        Due.same("at 1 too", x.learn(1, 1), 2);
        Due.same("at 2 not", x.learn(1, 1), 2);
        x.skill(1, 7);
        Due.same("skill() begins anew", x.of(1, 21), 0);
        x.learn(1, 3);
        x.skill(1, 7);
        Due.same("skill() with the same number, too", x.of(1, 21), 0);
        Due.same("the others are as they were", x.of(2, 20) * 100 + x.of(2, 21), 900);
    }

    // Promise 29
    private static void till() {
        Random r = new Random(17);
        for (int i = 0; i < 150; i++) {
            HoopWaist x = new HoopWaist();
            x.skill(9, r.nextInt(13));
            if (r.nextBoolean()) {
                x.learn(9, 1 + r.nextInt(20));
            }
            int v = r.nextInt(13);
            int till = x.till(9, v);
            int minutes = 0;
            while (x.of(9, 20) < v) {
                x.learn(9, 1);
                minutes++;
            }
            Due.same("till " + v, till, minutes);
        }
    }
}
