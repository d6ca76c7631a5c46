import java.util.Random;

/** Promises 20 to 22: music, films, starts that fit. */
public final class MusicTest {
    public static void main(String[] args) {
        wrongInputs();
        musicByHand();
        musicGoesForeFirst();
        filmByHand();
        lyingHoop();
        for (int seed = 0; seed < 300; seed++) {
            Pair p = Pair.random(new Random(5000 + seed));
            music(p, new Random(seed), "seed " + seed + " ");
            film(p, new Random(seed), "seed " + seed + " ");
        }
        Due.end();
    }

    static void lay(HoopWaist x, int shelf, int... bytes) {
        x.row(shelf, 0, bytes.length);
        for (int i = 0; i < bytes.length; i++) {
            x.put(shelf, i, bytes[i]);
        }
    }

    private static void wrongInputs() {
        HoopWaist x = new HoopWaist();
        x.hoop(55);
        x.body(3);
        x.keep(1, 0);
        x.row(2, 2, 3);
        x.row(3, 0, 0);
        for (int shelf : new int[] {Integer.MIN_VALUE, -1, 6, Integer.MAX_VALUE}) {
            Due.same("music", x.music(shelf), HoopWaist.BAD);
            Due.same("judge", x.judge(shelf, 0), HoopWaist.BAD);
            Due.same("begun", x.begun(shelf, 0, 0), HoopWaist.VOID);
        }
        int[] want = {-11, -12, -12};
        for (int shelf = 0; shelf < 3; shelf++) {
            Due.same("music on " + shelf, x.music(shelf), want[shelf]);
            Due.same("judge on " + shelf, x.judge(shelf, 0), want[shelf]);
            Due.same("judge on " + shelf + ", no such hoop", x.judge(shelf, 1), HoopWaist.BAD);
            Due.same("begun on " + shelf, x.begun(shelf, 0, 0), HoopWaist.VOID);
            Due.same("the first begun on " + shelf, x.begun(shelf, 0, 1), HoopWaist.VOID);
        }
        for (int b : new int[] {-1, 1, 5, Integer.MIN_VALUE, Integer.MAX_VALUE}) {
            Due.same("judge of hoop " + b, x.judge(3, b), HoopWaist.BAD);
            Due.same("begun of hoop " + b, x.begun(3, b, 0), HoopWaist.VOID);
        }
        for (int b : new int[] {-1, 2, Integer.MIN_VALUE, Integer.MAX_VALUE}) {
            Due.same("begun, what " + b, x.begun(3, 0, b), HoopWaist.VOID);
        }
        Due.same("an empty film", x.judge(3, 0), HoopWaist.NOT);
        Due.same("an empty film fits all", x.begun(3, 0, 0), 19);
        Due.same("an empty film, the first", x.begun(3, 0, 1), -9);
    }

    /** A law by which only pushes hold the hoop, one each ten ticks at the latest. */
    private static HoopWaist held() {
        HoopWaist x = new HoopWaist();
        x.hoop(91);
        x.mend(0, 3, 1);
        x.mend(0, 2, 1);
        Pair.tell(x, "v<9?9");
        return x;
    }

    // Promise 20
    private static void musicByHand() {
        HoopWaist x = held();
        x.row(0, 0, 0);
        Due.same("no pushes at all", x.music(0), 9);
        lay(x, 0, 9);
        Due.same("a push at tick 9 from now", x.music(0), 21);
        lay(x, 0, 10);
        Due.same("a push at tick 10 comes too late", x.music(0), 9);
        lay(x, 0, 9, 12);
        Due.same("pushes at 9 and 21", x.music(0), 33);
        lay(x, 0, 9, 13);
        Due.same("a push at 22 comes too late", x.music(0), 21);
        lay(x, 0, 9, 0, 9);
        Due.same("0 ends it", x.music(0), 21);
        lay(x, 0, 9, -1, 9);
        Due.same("-1 ends it", x.music(0), 21);
        lay(x, 0, 1, 1, 1);
        Due.same("a push each tick", x.music(0), 20);
        Due.same("the ring is as it was", x.of(0, 15) * 100 + x.of(0, 4), 20);
        Due.same("no push in deed", x.led(0), 0);
    }

    /** Its pushes are its own: the first goes fore, the next back, whatever the beat says now. */
    private static void musicGoesForeFirst() {
        HoopWaist x = new HoopWaist();
        x.go(6);
        x.hoop(99);
        x.mend(0, 3, 0);
        x.mend(0, 2, 0);
        lay(x, 0, 1);
        lay(x, 1, 1, 1);
        Pair.tell(x, "n=0?9");
        Due.same("the first goes fore", x.music(0), 200);
        Pair.tell(x, "n=12?9");
        Due.same("the first does not go back", x.music(0), 9);
        Due.same("the next one does", x.music(1), 200);
    }

    private static void music(Pair p, Random r, String at) {
        int length = r.nextInt(61);
        int[] row = new int[length];
        for (int i = 0; i < length; i++) {
            row[i] = r.nextInt(30) == 0 ? r.nextInt(256) - 128 : 1 + r.nextInt(9);
        }
        lay(p.x, 4, row);
        boolean[] push = new boolean[201];
        int tick = 0;
        for (int i = 0; i < length && row[i] >= 1; i++) {
            tick += row[i];
            if (tick <= 200) {
                push[tick] = true;
            }
        }
        Model m = p.m.copy();
        int lasts = 200;
        int fore = 0;
        for (int k = 0; k < 200; k++) {
            if (push[k]) {
                m.push(m.strength, fore);
                fore = 12 - fore;
            }
            m.settle();
            for (int i = 0; i < m.hoops.size(); i++) {
                if (m.lies(i) && !p.m.lies(i)) {
                    lasts = Math.min(lasts, k);
                }
            }
        }
        Due.same(at + "music", p.x.music(4), lasts);
    }

    // Promises 21 and 22
    private static void filmByHand() {
        HoopWaist x = new HoopWaist();
        x.hoop(59);
        x.mend(0, 3, 0);
        lay(x, 0, 6, 12, 18, 0, 6);
        Due.same("all so", x.judge(0, 0), HoopWaist.NOT);
        Due.same("one start", x.begun(0, 0, 0), 1);
        Due.same("the start", x.begun(0, 0, 1), 4);
        x.put(0, 2, 17);
        Due.same("the third is not so", x.judge(0, 0), 2);
        Due.same("no start", x.begun(0, 0, 0), 0);
        Due.same("none", x.begun(0, 0, 1), HoopWaist.NOT);
        lay(x, 0, 9, 18);
        Due.same("three starts, as 9 is the most", x.begun(0, 0, 0), 3);
        Due.same("the first of them", x.begun(0, 0, 1), 7);
        lay(x, 0, -6);
        Due.same("a byte is no place by 24", x.judge(0, 0), 0);
        lay(x, 0, 18);
        Due.same("backward", x.begun(0, 0, 1), -4);
        Due.same("the pace stays", x.of(0, 2), 4);
    }

    private static void lyingHoop() {
        HoopWaist x = new HoopWaist();
        x.hoop(11);
        x.go(100);
        int place = x.of(0, 3);
        lay(x, 0, place, place, place);
        Due.same("it lies still", x.judge(0, 0), HoopWaist.NOT);
        Due.same("0 alone", x.begun(0, 0, 0), 1);
        Due.same("it is 0", x.begun(0, 0, 1), 0);
        x.put(0, 1, place + 1);
        Due.same("the second is not so", x.judge(0, 0), 1);
        Due.same("none", x.begun(0, 0, 0), 0);
        Due.same("none, the first", x.begun(0, 0, 1), HoopWaist.NOT);
    }

    private static void film(Pair p, Random r, String at) {
        for (int hoop = 0; hoop < p.m.hoops.size(); hoop++) {
            int length = 1 + r.nextInt(10);
            Model m = p.m.copy();
            m.hoops.get(hoop)[2] = m.lies(hoop) || r.nextBoolean() ? m.hoops.get(hoop)[2] : r.nextInt(19) - 9;
            int[] row = new int[length];
            for (int i = 0; i < length; i++) {
                m.tick();
                row[i] = r.nextInt(40) == 0 ? r.nextInt(24) : m.hoops.get(hoop)[3];
            }
            lay(p.x, 5, row);
            Due.same(at + "judge " + hoop, p.x.judge(5, hoop), unlike(p.m, row, hoop, p.m.hoops.get(hoop)[2]));
            int many = 0;
            int first = HoopWaist.NOT;
            for (int pace = 9; pace >= -9; pace--) {
                if ((pace == 0 || !p.m.lies(hoop)) && unlike(p.m, row, hoop, pace) == HoopWaist.NOT) {
                    many++;
                    first = pace;
                }
            }
            Due.same(at + "begun " + hoop, p.x.begun(5, hoop, 0), many);
            Due.same(at + "first begun " + hoop, p.x.begun(5, hoop, 1), first);
        }
    }

    private static int unlike(Model start, int[] row, int hoop, int pace) {
        Model m = start.copy();
        m.hoops.get(hoop)[2] = pace;
        for (int i = 0; i < row.length; i++) {
            m.tick();
            if (m.hoops.get(hoop)[3] != row[i]) {
                return i;
            }
        }
        return HoopWaist.NOT;
    }
}
