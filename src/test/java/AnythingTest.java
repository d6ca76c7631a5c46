import java.util.ArrayList;
import java.util.List;
import java.util.Random;

/** Runs of 512 calls with any arguments: none throws, the same calls give the same answers, questions change nothing. */
public final class AnythingTest {
    /** An object is used for so many calls at most. */
    private static final int MOST = 512;
    private static final int[] EDGES = {Integer.MIN_VALUE, Integer.MAX_VALUE, -2000000000, -129, -10, -9, -2, -1};
    private static final String LETTERS = "nvshfy0123456789|&<=>+-*/%!(?;)nf";

    public static void main(String[] args) {
        for (int seed = 0; seed < 240; seed++) {
            Due.holds("run " + seed + " twice", answers(seed, MOST, false).equals(answers(seed, MOST, false)));
            questionsChangeNothing(seed);
        }
        Due.end();
    }

    /** Of at most so many calls; asking: one question more ahead of each call, or of each law told letter by letter. */
    private static List<Long> answers(int seed, int most, boolean asking) {
        HoopWaist x = new HoopWaist();
        Random r = new Random(seed);
        Random q = new Random(seed + 77);
        List<Long> answers = new ArrayList<>();
        for (int used = 0; used < most; used++) {
            if (asking) {
                call(x, q, 20 + q.nextInt(22));
            }
            int which = r.nextInt(4) == 0 ? 20 + r.nextInt(22) : r.nextInt(20);
            if (which == 5) {
                String text = randomText(r);
                text = text.substring(0, Math.min(text.length(), most - used - 1));
                answers.add((long) Pair.tell(x, text));
                used += text.length();
            } else {
                answers.add(call(x, r, which));
            }
        }
        return answers;
    }

    private static void questionsChangeNothing(int seed) {
        List<Long> plain = answers(seed, MOST / 2, false);
        List<Long> asked = answers(seed, MOST / 2, true);
        for (int i = 0; i < plain.size(); i++) {
            if (!plain.get(i).equals(asked.get(i))) {
                Due.same("run " + seed + " with questions between, call " + i, asked.get(i), plain.get(i));
                return;
            }
        }
    }

    private static int any(Random r, int below) {
        int way = r.nextInt(12);
        if (way == 0) {
            return EDGES[r.nextInt(EDGES.length)];
        }
        return way == 1 ? r.nextInt(300) - 20 : r.nextInt(below);
    }

    /** 0 to 19 may change something, 20 to 41 only ask. */
    private static long call(HoopWaist x, Random r, int which) {
        switch (which) {
            case 0: return x.hoop(any(r, 100));
            case 1: return x.hoops(any(r, 6), any(r, 30), any(r, 6));
            case 2: return x.mend(any(r, 5), any(r, 3), any(r, 19) - 9);
            case 3: return x.mend(0, 3 + any(r, 5), any(r, 13));
            case 4: return x.feed(any(r, 256));
            case 5: return x.law();
            case 6: return x.go(any(r, 20));
            case 7: return x.lift(any(r, 5));
            case 8: return x.skill(any(r, 25), any(r, 13));
            case 9: return x.learn(any(r, 25), any(r, 40));
            case 10: return x.image();
            case 11: return r.nextInt(4) == 0 ? x.back() : x.image();
            case 12: return x.undo();
            case 13: return x.redo();
            case 14: return x.body(any(r, 8));
            case 15: return x.act(any(r, 50), any(r, 4), r.nextInt());
            case 16: return x.keep(any(r, 6), any(r, 50) - 1);
            case 17: return x.row(any(r, 6), any(r, 5) * r.nextInt(2), any(r, 61));
            case 18: return x.put(any(r, 6), any(r, 60), any(r, 10));
            case 19: return x.shift(any(r, 6), any(r, 60), any(r, 6), any(r, 60), any(r, 20));
            default: return ask(x, r, which);
        }
    }

    private static String randomText(Random r) {
        if (r.nextBoolean()) {
            return Pair.randomLaw(r);
        }
        StringBuilder b = new StringBuilder();
        int length = r.nextInt(r.nextInt(4) == 0 ? 130 : 8);
        for (int i = 0; i < length; i++) {
            b.append(LETTERS.charAt(r.nextInt(LETTERS.length())));
        }
        return b.toString();
    }

    private static long ask(HoopWaist x, Random r, int which) {
        switch (which) {
            case 20: return x.of(any(r, 25), any(r, 22));
            case 21: return x.led(any(r, 2));
            case 22: return x.then(any(r, 5), any(r, 201), any(r, 3));
            case 23: return x.falls(any(r, 5));
            case 24: return x.lasts();
            case 25: return x.beatFor(any(r, 2));
            case 26: return x.leastPush(any(r, 201));
            case 27: return x.mistake(any(r, 41), any(r, 2));
            case 28: return x.held(any(r, 201));
            case 29: return x.rescue(any(r, 5), 100 * any(r, 6) + any(r, 24));
            case 30: return x.start(any(r, 5));
            case 31: return x.music(any(r, 6));
            case 32: return x.judge(any(r, 6), any(r, 5));
            case 33: return x.begun(any(r, 6), any(r, 5), any(r, 2));
            case 34: return x.left(r.nextInt(), any(r, 31), any(r, 26) - 1);
            case 35: return x.knocked(r.nextInt(), any(r, 31), any(r, 25));
            case 36: return x.last(r.nextInt(), any(r, 2));
            case 37: return x.alone(any(r, 25), any(r, 9), any(r, 2));
            case 38: return x.till(any(r, 25), any(r, 13));
            case 39: return x.trace(any(r, 24));
            case 40: return x.element(any(r, 6), any(r, 60));
            default: return r.nextBoolean() ? x.taken(any(r, 6), any(r, 8)) : x.count(any(r, 6));
        }
    }
}
