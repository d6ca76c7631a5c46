import java.util.Random;

/** An object and the model of it, kept in step, with random but repeatable histories. */
final class Pair {
    final HoopWaist x = new HoopWaist();
    final Model m = new Model();

    void hoop(int size, int heavy) {
        x.hoop(10 * size + heavy);
        m.add(size, heavy, 4);
    }

    void pace(int hoop, int pace) {
        x.mend(hoop, 2, pace);
        m.hoops.get(hoop)[2] = pace;
    }

    void rub(int v) {
        x.mend(0, 3, v);
        m.rub = v;
    }

    void beat(int beat, int phase) {
        x.mend(0, 4, beat);
        x.mend(0, 5, phase);
        m.beat = beat;
        m.phase = phase;
    }

    void strength(int v) {
        x.mend(0, 6, v);
        m.strength = v;
    }

    int law(String text) {
        int answer = tell(x, text);
        if (answer == 1) {
            m.law = text;
        }
        return answer;
    }

    void go(int n) {
        x.go(n);
        for (int i = 0; i < n; i++) {
            m.tick();
        }
    }

    static int tell(HoopWaist x, String text) {
        for (int i = 0; i < text.length(); i++) {
            x.feed(text.charAt(i));
        }
        return x.law();
    }

    /** Any settings, any law, hoops that came at different ticks, some of them lying. */
    static Pair random(Random r) {
        Pair p = new Pair();
        p.rub(r.nextInt(4));
        int beat = 2 + r.nextInt(23);
        p.beat(beat, r.nextInt(beat));
        p.strength(r.nextInt(6));
        if (r.nextInt(3) > 0) {
            p.law(randomLaw(r));
        }
        int hoops = r.nextInt(6);
        for (int i = 0; i < hoops; i++) {
            p.hoop(1 + r.nextInt(9), 1 + r.nextInt(9));
            p.pace(i, r.nextInt(19) - 9);
            if (r.nextInt(3) == 0) {
                p.go(1 + r.nextInt(12));
            }
        }
        if (r.nextInt(4) == 0) {
            int shorter = 2 + r.nextInt(beat - 1);
            p.x.mend(0, 4, shorter);
            p.m.beat = shorter;
        }
        return p;
    }

    static String randomLaw(Random r) {
        String[] some = {"n<4?f+1;n>9?0-s/3;v=0", "9", "n<3?f;-1", "f*(n<5)-(n>8)", "v<4&n<7?f+2;n>9?-2",
            "!n+!(v-4)*3|y<10?f*2;0", "n%3*h-s/2+y/0", "-n+f+(y<20)*4;n"};
        if (r.nextInt(2) == 0) {
            return some[r.nextInt(some.length)];
        }
        StringBuilder b = new StringBuilder();
        int lines = 1 + r.nextInt(3);
        for (int i = 0; i < lines; i++) {
            b.append(i == 0 ? "" : ";").append(randomPart(r, 2));
            if (r.nextInt(2) == 0) {
                b.append('?').append(randomPart(r, 2));
            }
        }
        return b.length() <= 120 ? b.toString() : "n<4?f";
    }

    private static String randomPart(Random r, int deep) {
        int kind = r.nextInt(deep > 0 ? 7 : 2);
        if (kind == 0) {
            return Integer.toString(r.nextInt(r.nextInt(3) == 0 ? 10000 : 13));
        }
        if (kind == 1) {
            return "" + "nvshfy".charAt(r.nextInt(6));
        }
        if (kind == 2) {
            return (r.nextBoolean() ? "!" : "-") + "(" + randomPart(r, deep - 1) + ")";
        }
        String sign = "" + "|&<=>+-*/%".charAt(r.nextInt(10));
        if (kind == 3 || "<=>".contains(sign)) {
            return "(" + randomPart(r, deep - 1) + ")" + sign + "(" + randomPart(r, deep - 1) + ")";
        }
        String joined = randomPart(r, 0) + sign + randomPart(r, 0) + "*+-/%|&".charAt(r.nextInt(7)) + randomPart(r, 0);
        return deep > 1 ? joined + "+" + randomPart(r, 0) : joined;
    }
}
