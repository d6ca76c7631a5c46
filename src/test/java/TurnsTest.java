/** Promises 34 to 36: bodies, acts, the trace. The acts are compared with Java's own way to find a body. */
public final class TurnsTest {
    public static void main(String[] args) {
        bodies();
        acts();
        noAct();
        byHand();
        noneRunsMoreThanAreKept();
        Due.end();
    }

    // Promise 34
    private static void bodies() {
        HoopWaist x = new HoopWaist();
        for (int kind : new int[] {Integer.MIN_VALUE, -1, 8, Integer.MAX_VALUE}) {
            Due.same("body(" + kind + ")", x.body(kind), HoopWaist.BAD);
        }
        for (int i = 0; i < 50; i++) {
            Due.same("body " + i, x.body(i % 8), i);
            Due.same("count(4)", x.count(4), i + 1);
        }
        Due.same("body 50", x.body(0), HoopWaist.FULL);
        Due.same("a bad one", x.body(8), HoopWaist.BAD);
        Due.same("count(4)", x.count(4), 50);
    }

    // Promises 35 and 36
    private static void acts() {
        int[] some = {0, 1, -1, 7, 12345, Integer.MAX_VALUE, Integer.MIN_VALUE, 0x40000000};
        for (int first = 0; first < 8; first++) {
            for (int body = 0; body < 8; body++) {
                HoopWaist x = new HoopWaist();
                for (int i = 0; i <= body; i++) {
                    x.body((first + i) % 8);
                }
                int kind = (first + body) % 8;
                for (int act = 0; act < 4; act++) {
                    for (int at = 0; at < 2; at++) {
                        check(x, Acts.made(kind, body), body, act, some[(act + 2 * body + at + first) % 8]);
                    }
                }
            }
        }
    }

    private static void check(HoopWaist x, Acts.Turn turn, int body, int act, int with) {
        Acts.RAN.clear();
        int want = Acts.acted(turn, act, with);
        String at = turn.getClass().getSimpleName() + " " + body + " act " + act + " with " + with;
        Due.same(at, x.act(body, act, with), want);
        Due.same(at + ": how many ran", x.count(5), Acts.RAN.size());
        for (int i = 0; i < 24; i++) {
            Due.same(at + ": trace " + i, x.trace(i), i < Acts.RAN.size() ? Acts.RAN.get(i) : HoopWaist.BAD);
        }
        Due.same(at + ": trace -1", x.trace(-1), HoopWaist.BAD);
    }

    private static void noAct() {
        HoopWaist x = new HoopWaist();
        x.body(0);
        int[][] none = {{1, 0}, {-1, 0}, {50, 0}, {0, -1}, {0, 4}, {Integer.MIN_VALUE, 0}, {0, Integer.MAX_VALUE}};
        for (int[] n : none) {
            Due.same("an act", x.act(0, 1, 5), 10);
            Due.same("it has a trace", x.count(5), 2);
            Due.same("act(" + n[0] + ", " + n[1] + ")", x.act(n[0], n[1], 5), 0);
            Due.same("none ran", x.count(5), 0);
            Due.same("no trace", x.trace(0), HoopWaist.BAD);
        }
        for (int i : new int[] {Integer.MIN_VALUE, 24, Integer.MAX_VALUE}) {
            Due.same("trace(" + i + ")", x.trace(i), HoopWaist.BAD);
        }
    }

    private static void byHand() {
        HoopWaist x = new HoopWaist();
        x.body(6);
        x.body(7);
        Due.same("idle pushes", x.act(0, 0, 5), 10);
        Due.same("knocked tells", x.act(1, 3, 5), 20);
        int[] ran = {81, 2, 80, 10, 20, 1, 50, 11, 20, 1, 50, 11, 20, 1};
        for (int i = 0; i < ran.length; i++) {
            Due.same("trace " + i, x.trace(i), ran[i]);
        }
        Due.same("how many", x.count(5), ran.length);
    }

    /** "the first 24 are kept": no act runs more than 14, so that all are kept, and what comes behind them is BAD. */
    private static void noneRunsMoreThanAreKept() {
        int most = 0;
        for (int kind = 0; kind < 8; kind++) {
            HoopWaist x = new HoopWaist();
            x.body(kind);
            for (int act = 0; act < 4; act++) {
                x.act(0, act, 3);
                int ran = x.count(5);
                most = Math.max(most, ran);
                for (int i = 0; i < 24; i++) {
                    Due.same("kept " + i + " of " + ran, x.trace(i) == HoopWaist.BAD ? 0 : 1, i < ran ? 1 : 0);
                }
                Due.same("the 25th", x.trace(24), HoopWaist.BAD);
            }
        }
        Due.same("the most that run", most, 14);
    }
}
