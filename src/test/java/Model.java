import java.util.ArrayList;
import java.util.List;

/** The ring once more, as plainly as the document tells it, for tests to compare with. */
final class Model {
    /** SIZE, HEAVY, PACE, PLACE, HIGH. */
    final List<int[]> hoops = new ArrayList<>();
    String law = null;
    int now = 0, rub = 1, beat = 6, phase = 0, strength = 2;

    Model copy() {
        Model m = new Model();
        for (int[] h : hoops) {
            m.hoops.add(h.clone());
        }
        m.law = law;
        m.now = now;
        m.rub = rub;
        m.beat = beat;
        m.phase = phase;
        m.strength = strength;
        return m;
    }

    void add(int size, int heavy, int pace) {
        hoops.add(new int[] {size, heavy, pace, 0, 20});
    }

    boolean lies(int i) {
        return hoops.get(i)[4] == 0;
    }

    /** -1: no push at this tick; else where it goes. */
    int goal() {
        int phaseLeft = phase % beat;
        if (now % beat != phaseLeft) {
            return -1;
        }
        int nth = (now - phaseLeft) / beat;
        return nth % 2 == 1 ? 12 : 0;
    }

    void push(int force, int goal) {
        for (int[] h : hoops) {
            if (h[4] > 0) {
                int far = Math.abs(h[3] - goal);
                far = far > 12 ? 24 - far : far;
                int by = law == null ? (far <= 2 ? force : far >= 10 ? -1 : 0)
                    : worth(law, new int[] {far, Math.abs(h[2]), h[0], h[1], force, h[4]});
                by = by > 9 ? 9 : by < -9 ? -9 : by;
                int speed = Math.abs(h[2]) + by;
                speed = speed > 9 ? 9 : speed < 0 ? 0 : speed;
                h[2] = h[2] < 0 ? -speed : speed;
            }
        }
    }

    private static void slower(int[] h, int by) {
        for (int i = 0; i < by; i++) {
            h[2] -= Integer.signum(h[2]);
        }
    }

    void settle() {
        for (int[] h : hoops) {
            if ((now + 1) % h[1] == 0) {
                slower(h, rub);
            }
        }
        for (int[] h : hoops) {
            h[3] = (h[3] + h[2] + 240) % 24;
        }
        for (int[] a : hoops) {
            for (int[] b : hoops) {
                if (a != b && a[4] > 0 && b[4] > 0 && a[3] == b[3]) {
                    slower(a, 1);
                }
            }
        }
        for (int[] h : hoops) {
            int need = (10 - h[0]) / 2 + 1;
            h[4] = Math.abs(h[2]) >= need ? h[4] + 1 : h[4] - 2;
            h[4] = h[4] > 20 ? 20 : h[4] < 0 ? 0 : h[4];
            if (h[4] == 0) {
                h[2] = 0;
            }
        }
        now++;
    }

    void tick() {
        int goal = goal();
        if (goal >= 0) {
            push(strength, goal);
        }
        settle();
    }

    int falls(int hoop) {
        Model m = copy();
        for (int k = 0; k <= 200; k++) {
            if (m.lies(hoop)) {
                return k;
            }
            m.tick();
        }
        return HoopWaist.NOT;
    }

    int lasts() {
        int least = 200;
        for (int i = 0; i < hoops.size(); i++) {
            int falls = falls(i);
            if (falls > 0) {
                least = Math.min(least, falls - 1);
            }
        }
        return least;
    }

    /** What a law gives; names: n v s h f y. Lines are split from outside in, weakest sign first. */
    static int worth(String text, int[] names) {
        for (String line : text.split(";", -1)) {
            int q = line.indexOf('?');
            if (q < 0) {
                return part(line, names);
            }
            if (part(line.substring(0, q), names) != 0) {
                return part(line.substring(q + 1), names);
            }
        }
        return 0;
    }

    private static int part(String e, int[] names) {
        for (String signs : new String[] {"|", "&", "<=>", "+-", "*/%"}) {
            int at = lastJoin(e, signs);
            if (at >= 0) {
                return join(e.charAt(at), part(e.substring(0, at), names), part(e.substring(at + 1), names));
            }
        }
        char c = e.charAt(0);
        if (c == '!') {
            return part(e.substring(1), names) == 0 ? 1 : 0;
        }
        if (c == '-') {
            return -part(e.substring(1), names);
        }
        if (c == '(') {
            return part(e.substring(1, e.length() - 1), names);
        }
        int name = "nvshfy".indexOf(c);
        return name >= 0 ? names[name] : Integer.parseInt(e);
    }

    private static int lastJoin(String e, String signs) {
        int open = 0;
        for (int i = e.length() - 1; i > 0; i--) {
            char c = e.charAt(i);
            open += c == ')' ? 1 : c == '(' ? -1 : 0;
            char ahead = e.charAt(i - 1);
            boolean behindOperand = Character.isLetterOrDigit(ahead) || ahead == ')';
            if (open == 0 && behindOperand && signs.indexOf(c) >= 0) {
                return i;
            }
        }
        return -1;
    }

    private static int join(char sign, int a, int b) {
        switch (sign) {
            case '|': return a != 0 | b != 0 ? 1 : 0;
            case '&': return a != 0 & b != 0 ? 1 : 0;
            case '<': return a < b ? 1 : 0;
            case '=': return a == b ? 1 : 0;
            case '>': return a > b ? 1 : 0;
            case '+': return a + b;
            case '-': return a - b;
            case '*': return a * b;
            case '/': return b == 0 ? 0 : (int) ((long) a / b);
            default: return b == 0 ? 0 : (int) ((long) a % b);
        }
    }
}
