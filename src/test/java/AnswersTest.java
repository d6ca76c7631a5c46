import java.util.ArrayList;
import java.util.List;
import java.util.function.ToLongFunction;

/** "Answers, of several the one named first ..."; "What is answered so changes nothing." */
public final class AnswersTest {
    private static final int NOTHING = -11, OTHER = -12, NO_PLACE = -13, BELOW = -14;

    public static void main(String[] args) {
        badAheadOfFull();
        badAheadOfState();
        badAheadOfRefusals();
        refusalsInTheirOrder();
        refusedChangesNothing();
        questionsChangeNothing();
        aFaultChangesNothingButTheTape();
        fiveHundredAndTwelveCalls();
        Due.end();
    }

    /** Five hoops, of which one lies; fifty bodies; a tape of 120 bytes. */
    private static HoopWaist full() {
        HoopWaist x = rich();
        x.hoop(31);
        x.hoop(32);
        for (int i = x.count(4); i < 50; i++) {
            x.body(i % 8);
        }
        for (int i = x.count(2); i < 120; i++) {
            x.feed('+');
        }
        return x;
    }

    /** A little of all: hoops, one of them lying, a law, bytes on the tape, an image, changes undone, skills, turns, rows. */
    private static HoopWaist rich() {
        HoopWaist x = Bench.calm(99, 55, 13);
        x.mend(1, 2, -5);
        x.mend(2, 2, 0);
        x.go(10);
        x.image();
        Bench.tell(x, "n<5?f;-1");
        x.go(3);
        int[] beats = {7, 9, 11};
        for (int beat : beats) {
            x.mend(0, 4, beat);
        }
        x.undo();
        x.undo();
        x.feed('n');
        x.feed('+');
        x.skill(3, 4);
        x.learn(3, 3);
        x.body(7);
        x.body(5);
        x.act(0, 3, 9);
        x.keep(1, 1);
        Bench.lay(x, 2, 4, 1, 6);
        x.row(3, 1, 2);
        x.put(3, 1, -300);
        x.row(4, 0, 0);
        return x;
    }

    /** "BAD (-1) ... FULL (-3)": an argument that is not as said comes first. */
    private static void badAheadOfFull() {
        HoopWaist x = full();
        Due.same("hoop", x.hoop(55), Bench.FULL);
        Due.same("hoop, not as said", x.hoop(50), Bench.BAD);
        Due.same("feed", x.feed(1), Bench.FULL);
        Due.same("feed, not as said", x.feed(256), Bench.BAD);
        Due.same("body", x.body(0), Bench.FULL);
        Due.same("body, not as said", x.body(8), Bench.BAD);
    }

    /** "BAD (-1) ... STATE (-5)". */
    private static void badAheadOfState() {
        HoopWaist x = rich();
        Due.same("the third lies", x.of(2, 4), 0);
        Due.same("rescue of one that lies", x.rescue(2, 100), Bench.STATE);
        Due.same("rescue of one that lies, not as said", x.rescue(2, 124), Bench.BAD);
        Due.same("rescue of none", x.rescue(3, 100), Bench.BAD);
        Due.same("lift of one that is up", x.lift(0), Bench.STATE);
        Due.same("lift of none", x.lift(3), Bench.BAD);
        Due.same("start of one that lies", x.start(2), Bench.STATE);
        Due.same("start of none", x.start(3), Bench.VOID);
    }

    /** "BAD (-1) ... -11 to -14". */
    private static void badAheadOfRefusals() {
        HoopWaist x = rich();
        Due.same("nothing", x.judge(0, 0), NOTHING);
        Due.same("nothing, no such hoop", x.judge(0, 3), Bench.BAD);
        Due.same("another kind", x.judge(1, 0), OTHER);
        Due.same("another kind, no such hoop", x.judge(1, 3), Bench.BAD);
        Due.same("hoops of another kind", x.hoops(3, 0, 1), OTHER);
        Due.same("hoops of another kind, n not as said", x.hoops(3, 0, 6), Bench.BAD);
        Due.same("a size below 0", x.row(0, 0, -1), BELOW);
        Due.same("a size below 0, no such sort", x.row(0, 5, -1), Bench.BAD);
        Due.same("a size below 0, no such shelf", x.row(6, 0, -1), Bench.BAD);
        Due.same("shift from nothing", x.shift(0, 0, 2, 0, 1), NOTHING);
        Due.same("shift from nothing to no shelf", x.shift(0, 0, 6, 0, 1), Bench.BAD);
        Due.same("shift from no shelf to nothing", x.shift(-1, 0, 0, 0, 1), Bench.BAD);
        Due.same("taken, nothing", x.taken(0, 0), NOTHING);
        Due.same("taken, nothing, no such kind", x.taken(0, 8), Bench.BAD);
        Due.same("taken, another kind", x.taken(1, 4), OTHER);
        Due.same("taken, a row, no such kind", x.taken(2, -1), Bench.BAD);
    }

    /** "-11 to -14": in this order. */
    private static void refusalsInTheirOrder() {
        HoopWaist x = rich();
        Due.same("put: nothing, no place", x.put(0, -1, 1), NOTHING);
        Due.same("put: a turn, no place", x.put(1, -1, 1), OTHER);
        Due.same("put: no place", x.put(2, -1, 1), NO_PLACE);
        Due.same("shift: a turn and nothing", x.shift(1, 0, 0, 0, 1), NOTHING);
        Due.same("shift: nothing and a turn", x.shift(0, 0, 1, 0, 1), NOTHING);
        Due.same("shift: nothing, no place", x.shift(0, -1, 2, 9, 1), NOTHING);
        Due.same("shift: a turn, no place", x.shift(2, -1, 1, 9, 1), OTHER);
        Due.same("shift: unlike sorts, no place", x.shift(2, -1, 3, 9, 1), OTHER);
        Due.same("shift: no place", x.shift(2, -1, 2, 0, 1), NO_PLACE);
    }

    private static final int LOOKS = 3;

    /**
     * All that can be asked (0), then what only deeds show: changes (1), the law that counts, the tape, the image (2).
     * Each look wants an object of its own, as one is used for 512 calls at most.
     */
    private static List<Long> seen(HoopWaist x, int look) {
        List<Long> seen = new ArrayList<>();
        if (look == 0) {
            shelves(x, seen);
        } else if (look == 1) {
            for (int i = 0; i < 3; i++) {
                seen.add((long) x.redo());
                seen.add((long) x.of(0, 11));
            }
            for (int i = 0; i < 8; i++) {
                seen.add((long) x.undo());
            }
        } else {
            seen.add((long) x.feed('1'));
            seen.add((long) x.law());
            seen.add((long) x.then(0, 30, 0));
            seen.add((long) x.then(1, 30, 1));
            seen.add((long) x.back());
        }
        state(x, seen);
        seen.add((long) x.hoop(77));
        seen.add((long) x.body(2));
        seen.add((long) x.go(9));
        seen.add((long) x.led(0));
        return seen;
    }

    private static void state(HoopWaist x, List<Long> seen) {
        for (int what = 0; what <= 5; what++) {
            seen.add((long) x.count(what));
            seen.add((long) x.of(0, 10 + what));
            for (int hoop = 0; hoop < 5; hoop++) {
                seen.add((long) x.of(hoop, what));
            }
        }
        for (int hoop = 0; hoop < 5; hoop++) {
            seen.add((long) x.then(hoop, 7, 0));
            seen.add((long) x.then(hoop, 40, 1));
        }
        seen.add((long) x.led(0));
        seen.add((long) x.led(1));
    }

    private static void shelves(HoopWaist x, List<Long> seen) {
        for (int girl = 0; girl < 25; girl++) {
            seen.add((long) x.of(girl, 20));
            seen.add((long) x.of(girl, 21));
        }
        for (int shelf = 0; shelf < 6; shelf++) {
            seen.add((long) x.taken(shelf, 0));
            seen.add((long) x.music(shelf));
            for (int i = 0; i < 4; i++) {
                seen.add(x.element(shelf, i));
            }
        }
        for (int i = 0; i < 15; i++) {
            seen.add((long) x.trace(i));
        }
    }

    private static void unchanged(String call, boolean isFull, long want, ToLongFunction<HoopWaist> refused) {
        for (int look = 0; look < LOOKS; look++) {
            HoopWaist asked = isFull ? full() : rich();
            HoopWaist twin = isFull ? full() : rich();
            Due.same(call, refused.applyAsLong(asked), want);
            Due.holds(call + " changes nothing, look " + look, seen(asked, look).equals(seen(twin, look)));
        }
    }

    private static void refused(String call, long want, ToLongFunction<HoopWaist> refused) {
        unchanged(call, false, want, refused);
    }

    /** "What is answered so changes nothing." */
    private static void refusedChangesNothing() {
        unchanged("hoop(55), full", true, Bench.FULL, x -> x.hoop(55));
        unchanged("feed, full", true, Bench.FULL, x -> x.feed('n'));
        unchanged("body, full", true, Bench.FULL, x -> x.body(0));
        unchanged("hoops, full", true, 0, x -> x.hoops(2, 0, 5));
        refused("hoop(50)", Bench.BAD, x -> x.hoop(50));
        refused("hoops(2, 0, 6)", Bench.BAD, x -> x.hoops(2, 0, 6));
        refused("hoops(3, 0, 1)", OTHER, x -> x.hoops(3, 0, 1));
        refused("hoops(0, 0, 1), missing", 0, x -> x.hoops(0, 0, 1));
        refused("hoops(2, 1, 1), it ends", 0, x -> x.hoops(2, 1, 1));
        int[] wrong = {10, 0, 10, 4, 25, 7, 6, 13};
        for (int what = 0; what < 8; what++) {
            int w = what;
            refused("mend " + what, Bench.VOID, x -> x.mend(0, w, wrong[w]));
            refused("mend " + what + " of none", Bench.VOID, x -> x.mend(4, w, 2));
        }
        refused("mend, one that lies", Bench.VOID, x -> x.mend(2, 2, 1));
        refused("mend, the same number", 7, x -> x.mend(0, 4, 7));
        refused("feed(256)", Bench.BAD, x -> x.feed(256));
        refused("go(0)", Bench.BAD, x -> x.go(0));
        refused("go(201)", Bench.BAD, x -> x.go(201));
        refused("lift of one that is up", Bench.STATE, x -> x.lift(0));
        refused("lift of none", Bench.BAD, x -> x.lift(3));
        refused("skill(3, 13)", Bench.BAD, x -> x.skill(3, 13));
        refused("skill(25, 1)", Bench.BAD, x -> x.skill(25, 1));
        refused("learn(3, 0)", Bench.BAD, x -> x.learn(3, 0));
        refused("learn(3, 100)", Bench.BAD, x -> x.learn(3, 100));
        refused("body(8)", Bench.BAD, x -> x.body(8));
        refused("trace(24)", Bench.BAD, x -> x.trace(24));
        refused("keep(6, 0)", Bench.BAD, x -> x.keep(6, 0));
        refused("keep(1, 2)", Bench.BAD, x -> x.keep(1, 2));
        refused("keep(2, -2)", Bench.BAD, x -> x.keep(2, -2));
        refused("row(2, 5, 3)", Bench.BAD, x -> x.row(2, 5, 3));
        refused("row(2, 0, 61)", Bench.BAD, x -> x.row(2, 0, 61));
        refused("row(2, 0, -1)", BELOW, x -> x.row(2, 0, -1));
        refused("put(0, 0, 1)", NOTHING, x -> x.put(0, 0, 1));
        refused("put(1, 0, 1)", OTHER, x -> x.put(1, 0, 1));
        refused("put(2, 3, 1)", NO_PLACE, x -> x.put(2, 3, 1));
        refused("shift to nothing", NOTHING, x -> x.shift(2, 0, 0, 0, 1));
        refused("shift, unlike", OTHER, x -> x.shift(2, 0, 3, 0, 1));
        refused("shift, one too many", NO_PLACE, x -> x.shift(2, 0, 2, 1, 3));
        undoneOrLaidBackByNone();
    }

    /** undo, redo and back with nothing to go to: "STATE: none". */
    private static void undoneOrLaidBackByNone() {
        for (int look = 0; look < LOOKS; look++) {
            HoopWaist x = new HoopWaist();
            HoopWaist twin = new HoopWaist();
            x.hoop(53);
            twin.hoop(53);
            Due.same("undo", x.undo(), Bench.STATE);
            Due.same("redo", x.redo(), Bench.STATE);
            Due.same("back", x.back(), Bench.STATE);
            Due.holds("they change nothing, look " + look, seen(x, look).equals(seen(twin, look)));
        }
    }

    /** "In thought": the ring, the field and all else is as it was. */
    private static void questionsChangeNothing() {
        refused("lasts", rich().lasts(), x -> x.lasts());
        refused("then", rich().then(0, 200, 1), x -> x.then(0, 200, 1));
        refused("falls", rich().falls(0), x -> x.falls(0));
        refused("beatFor", rich().beatFor(0), x -> x.beatFor(0));
        refused("leastPush", rich().leastPush(200), x -> x.leastPush(200));
        refused("mistake", rich().mistake(3, 1), x -> x.mistake(3, 1));
        refused("held", rich().held(20), x -> x.held(20));
        refused("rescue", rich().rescue(1, 512), x -> x.rescue(1, 512));
        refused("start", rich().start(0), x -> x.start(0));
        refused("music", rich().music(2), x -> x.music(2));
        refused("judge", rich().judge(2, 0), x -> x.judge(2, 0));
        refused("begun", rich().begun(2, 0, 0), x -> x.begun(2, 0, 0));
        refused("left", rich().left(5, 30, -1), x -> x.left(5, 30, -1));
        refused("knocked", rich().knocked(5, 30, 1), x -> x.knocked(5, 30, 1));
        refused("last", rich().last(5, 0), x -> x.last(5, 0));
        refused("alone", rich().alone(3, 8, 0), x -> x.alone(3, 8, 0));
        refused("till", rich().till(3, 12), x -> x.till(3, 12));
    }

    /** "-100 less its FAULT; THE TAPE is empty then": nothing else of the law changes. */
    private static void aFaultChangesNothingButTheTape() {
        HoopWaist x = rich();
        HoopWaist y = rich();
        Due.same("it ends too early", x.law(), -102);
        Due.same("the tape is empty", x.count(2), 0);
        for (int hoop = 0; hoop < 2; hoop++) {
            for (int k = 0; k <= 60; k++) {
                Due.same("the law that counts", x.then(hoop, k, 1), y.then(hoop, k, 1));
            }
        }
        Due.same("again: nothing is on it", x.law(), -100);
        Due.same("changes", x.count(3), y.count(3));
    }

    /** "An object is used for at most 512 calls": the 512th is still answered as promised. */
    private static void fiveHundredAndTwelveCalls() {
        HoopWaist going = Bench.calm(99);
        for (int i = 4; i < 511; i++) {
            Due.same("one is up", going.go(1), 1);
        }
        Due.same("NOW", going.of(0, 15), 507);
        HoopWaist far = Bench.calm(99);
        for (int i = 4; i < 511; i++) {
            far.go(200);
        }
        Due.same("NOW, as far as it can be", far.of(0, 15), 101400);
        HoopWaist pushed = new HoopWaist();
        for (int i = 0; i < 511; i++) {
            pushed.go(200);
        }
        Due.same("PUSHES, as many as they can be by BEAT 6", pushed.led(0), (511 * 200 + 5) / 6);
        HoopWaist mended = new HoopWaist();
        for (int i = 0; i < 511; i++) {
            Due.same("what it was", mended.mend(0, 7, i % 2 == 0 ? 12 : 1), i % 2 == 0 ? 1 : 12);
        }
        Due.same("forty may be undone", mended.undo(), 39);
        HoopWaist fed = new HoopWaist();
        for (int i = 1; i < 512; i++) {
            Due.same("a byte", fed.feed('n'), i <= 120 ? i : Bench.FULL);
        }
        Due.same("the fault", fed.law(), -101);
        HoopWaist learning = new HoopWaist();
        for (int i = 0; i < 511; i++) {
            Due.same("SKILL", learning.learn(i % 25, 99), 12);
        }
        Due.same("till 12", learning.till(24, 12), 0);
    }
}
