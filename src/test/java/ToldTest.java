import java.lang.reflect.Method;
import java.lang.reflect.Modifier;
import java.util.Arrays;
import java.util.HashMap;
import java.util.Map;
import java.util.Random;

/** All promises at once: runs of 512 calls, each answered by the class and by Told, the document's words once more. */
public final class ToldTest {
    private static final int MOST = 512, RUNS = 420;
    private static final int[] EDGES = {Integer.MIN_VALUE, Integer.MAX_VALUE, -2000000000, -129, -14, -2, -1};
    private static final String SIGNS = "nvshfy0123456789|&<=>+-*/%!(?;)";
    /** Calls by groups; behind each name where its arguments may lie (*: anywhere). */
    private static final String[][] CALLS = {
        {"hoop 9..101", "hoop 11..99", "hoops -1..6 -1..30 0..6", "mend -1..5 0..3 -10..10", "mend 0..4 2..2 -9..9", "go 0..30",
            "go 1..4", "lift -1..5", "lift 0..4", "led -1..2", "of -1..25 -1..22", "of 0..4 0..5", "of 0..0 10..15"},
        {"then -1..5 -1..201 -1..3", "falls -1..5", "lasts", "leastPush 0..201", "leastPush 1..30", "mistake -1..41 -1..2",
            "mistake 0..8 0..1", "held 0..201", "held 1..40", "rescue -1..5 90..620", "rescue 0..4 100..123", "start -1..5"},
        {"music -1..6", "judge -1..6 -1..5", "begun -1..6 -1..5 -1..2", "row 0..2 0..0 0..20", "put 0..2 0..9 1..9",
            "put 0..2 0..9 -2..23", "music 0..2", "judge 0..2 0..4", "hoops 0..2 0..9 1..5"},
        {"skill -1..25 -1..13", "skill 0..24 0..12", "left * 0..31 -1..25", "knocked * 0..31 -1..25", "last * -1..2",
            "alone -1..25 -1..9 -1..2", "learn -1..25 0..100", "learn 0..2 1..9", "till -1..25 -1..13", "till 0..2 0..12",
            "of 0..2 20..21", "mend 0..0 7..7 0..12"},
        {"mend 0..1 3..8 -1..13", "mend 0..0 4..5 0..25", "mend 0..0 3..7 0..3", "mend 0..2 0..1 1..9", "mend 0..2 2..2 -9..9",
            "undo", "undo", "redo", "redo", "image", "back", "go 1..9", "hoop 11..99", "of 0..0 10..15", "count 3..3"},
        {"body -1..8", "body 0..7", "body 0..7", "act -1..9 -1..4 *", "act 0..50 0..3 *", "trace -1..25", "trace 0..9",
            "keep -1..6 -1..9", "keep 0..5 0..50", "taken -1..6 -1..8", "taken 0..5 0..7", "count 4..5"},
        {"row -1..6 -1..5 -1..61", "row 0..2 0..4 50..60", "row 0..2 0..4 0..9", "put -1..6 -1..60 *", "put 0..2 0..9 *",
            "put 0..2 0..9 *", "put 0..2 0..9 -1..1", "element -1..6 -1..60", "element 0..2 0..9", "element 0..2 0..9",
            "element 0..2 0..9", "shift -1..6 -1..60 -1..6 -1..60 -1..60", "shift 0..2 0..4 0..2 0..4 0..5",
            "shift 0..2 0..4 0..2 0..4 0..5", "keep -1..6 -1..9", "hoops 0..2 0..60 1..5", "count -1..6"}};

    private static final Map<String, Method[]> FACE = new HashMap<>();

    public static void main(String[] args) throws Exception {
        for (Method m : HoopWaist.class.getDeclaredMethods()) {
            if (Modifier.isPublic(m.getModifiers())) {
                FACE.put(m.getName(), new Method[] {m, Told.class.getDeclaredMethod(m.getName(), m.getParameterTypes())});
            }
        }
        for (int seed = 0; seed < RUNS; seed++) {
            run(seed);
        }
        Due.end();
    }

    /** Each run likes a group of calls better than others, so that each comes often in some. */
    private static void run(int seed) throws Exception {
        Random r = new Random(seed);
        HoopWaist x = new HoopWaist();
        Told told = new Told();
        int[] likes = new int[CALLS.length];
        Arrays.fill(likes, 1);
        likes[seed % likes.length] = 3 << r.nextInt(5);
        likes[r.nextInt(likes.length)] += 3;
        int beatFors = 0;
        int used = 0;
        while (used < MOST) {
            int any = r.nextInt(100);
            if (any < 3 && used + 121 < MOST) {
                used += law(r, x, told, seed);
            } else if (any < 4 && beatFors < 2) {
                beatFors++;
                used++;
                same(seed, x, told, "beatFor", r.nextInt(8) == 0 ? r.nextInt(4) - 1 : beatFors - 1);
            } else if (any < 5) {
                used += 60 < MOST - used ? film(r, x, told, seed) : 0;
            } else if (any < 6) {
                used += 240 < MOST - used ? backAndForth(r, x, told, seed) : 0;
            } else {
                used++;
                call(r, x, told, seed, liked(r, likes));
            }
        }
    }

    private static String liked(Random r, int[] likes) {
        int at = r.nextInt(Arrays.stream(likes).sum());
        int group = 0;
        while (at >= likes[group]) {
            at -= likes[group];
            group++;
        }
        return CALLS[group][r.nextInt(CALLS[group].length)];
    }

    private static void call(Random r, HoopWaist x, Told told, int seed, String call) throws Exception {
        String[] words = call.split(" ");
        long[] with = new long[words.length - 1];
        for (int i = 0; i < with.length; i++) {
            if (r.nextInt(60) == 0) {
                with[i] = EDGES[r.nextInt(EDGES.length)];
            } else if (words[i + 1].equals("*")) {
                with[i] = words[0].equals("put") ? r.nextLong() : r.nextInt();
            } else {
                String[] bounds = words[i + 1].split("\\.\\.");
                int least = Integer.parseInt(bounds[0]);
                with[i] = least + r.nextInt(Integer.parseInt(bounds[1]) - least + 1);
            }
        }
        same(seed, x, told, words[0], with);
    }

    private static void same(int seed, HoopWaist x, Told told, String name, long... with) throws Exception {
        Method[] two = FACE.get(name);
        Object[] values = new Object[with.length];
        for (int i = 0; i < with.length; i++) {
            boolean whole = two[0].getParameterTypes()[i] == long.class;
            values[i] = whole ? (Object) with[i] : (Object) (int) with[i];
        }
        long got = ((Number) two[0].invoke(x, values)).longValue();
        long want = ((Number) two[1].invoke(told, values)).longValue();
        Due.same("run " + seed + ": " + name + Arrays.toString(with), got, want);
    }

    /** A law by the tape, often with a byte that is wrong. */
    private static int law(Random r, HoopWaist x, Told told, int seed) throws Exception {
        StringBuilder text = new StringBuilder(Pair.randomLaw(r));
        int faults = r.nextInt(3) == 0 ? 1 + r.nextInt(2) : 0;
        for (int i = 0; i < faults; i++) {
            int at = r.nextInt(text.length() + 1);
            char sign = r.nextInt(9) == 0 ? (char) r.nextInt(256) : SIGNS.charAt(r.nextInt(SIGNS.length()));
            if (at < text.length() && r.nextBoolean()) {
                text.setCharAt(at, sign);
            } else {
                text.insert(at, sign);
            }
        }
        int length = Math.min(119, text.length());
        for (int i = 0; i < length; i++) {
            same(seed, x, told, "feed", text.charAt(i));
        }
        same(seed, x, told, "law");
        return length + 1;
    }

    /** Many changes in a row, undone, then done again. */
    private static int backAndForth(Random r, HoopWaist x, Told told, int seed) throws Exception {
        int changes = r.nextInt(60);
        for (int i = 0; i < changes; i++) {
            call(r, x, told, seed, r.nextInt(3) == 0 ? "mend 0..2 0..2 1..9" : "mend 0..0 3..7 0..5");
        }
        int n = r.nextInt(45);
        for (int i = 0; i < 2 * n; i++) {
            same(seed, x, told, i < n ? "undo" : "redo");
            boolean hoop = r.nextInt(3) == 0;
            same(seed, x, told, "of", hoop ? r.nextInt(3) : 0, hoop ? r.nextInt(3) : 10 + r.nextInt(5));
        }
        return changes + 4 * n;
    }

    /** A film of a hoop that goes on so, told by then(); sometimes with a wrong place. */
    private static int film(Random r, HoopWaist x, Told told, int seed) throws Exception {
        int n = r.nextInt(25);
        int hoop = r.nextInt(5);
        same(seed, x, told, "row", 0, 0, n);
        for (int i = 0; i < n; i++) {
            same(seed, x, told, "then", hoop, i + 1, 0);
            same(seed, x, told, "put", 0, i, r.nextInt(40) == 0 ? r.nextInt(24) : told.then(hoop, i + 1, 0));
        }
        same(seed, x, told, "judge", 0, hoop);
        same(seed, x, told, "begun", 0, hoop, 0);
        same(seed, x, told, "begun", 0, hoop, 1);
        return 2 * n + 4;
    }
}
