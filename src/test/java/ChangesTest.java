import java.util.ArrayList;
import java.util.List;
import java.util.Random;

/** Promises 30 to 33: the image, undo and redo. */
public final class ChangesTest {
    public static void main(String[] args) {
        image();
        laterHoops();
        undoAll();
        sameIsNone();
        redoEnds();
        fortyAtMost();
        paceOfOneThatLies();
        phaseAndBeat();
        for (int seed = 0; seed < 600; seed++) {
            anyChanges(new Random(seed));
        }
        Due.end();
    }

    /** Against whole states kept in a list: undo and redo only go back and forth in it. */
    private static void anyChanges(Random r) {
        HoopWaist x = new HoopWaist();
        x.hoop(46);
        x.hoop(53);
        x.hoop(99);
        List<int[]> states = new ArrayList<>();
        states.add(settings(x));
        int at = 0;
        for (int i = 0; i < 140; i++) {
            int way = r.nextInt(i % 90 < 60 ? 12 : 4);
            if (way == 0) {
                Due.same("undo", x.undo(), at == 0 ? HoopWaist.STATE : at - 1);
                at = Math.max(0, at - 1);
            } else if (way == 1) {
                boolean none = at == states.size() - 1;
                Due.same("redo", x.redo(), none ? HoopWaist.STATE : states.size() - at - 2);
                at = none ? at : at + 1;
            } else {
                int what = r.nextInt(8);
                int number = what < 3 ? r.nextInt(3) : 0;
                int v = r.nextInt(13);
                int was = x.mend(number, what, v);
                if (was != HoopWaist.VOID && was != v) {
                    int[] became = states.get(at).clone();
                    became[what < 3 ? 3 * number + what : 6 + what] = v;
                    states.subList(at + 1, states.size()).clear();
                    states.add(became);
                    if (states.size() > 41) {
                        states.remove(0);
                    }
                    at = states.size() - 1;
                }
            }
            // Not behind each step: an object is used for 512 calls at most.
            if (i % 14 == 13) {
                Due.same("count(3)", x.count(3), at);
                same("as it stands", settings(x), states.get(at));
            }
        }
    }

    private static int[] settings(HoopWaist x) {
        int[] settings = new int[14];
        for (int i = 0; i < 9; i++) {
            settings[i] = x.of(i / 3, i % 3);
        }
        for (int i = 0; i < 5; i++) {
            settings[9 + i] = x.of(0, 10 + i);
        }
        return settings;
    }

    // Promises 30 and 31
    private static void image() {
        HoopWaist x = new HoopWaist();
        Due.same("no image", x.back(), HoopWaist.STATE);
        x.hoop(53);
        x.hoop(82);
        x.go(9);
        Due.same("image", x.image(), 9);
        int[] was = state(x);
        x.mend(0, 2, -1);
        x.mend(1, 0, 1);
        x.mend(0, 3, 3);
        x.skill(0, 1);
        x.go(200);
        Due.same("back", x.back(), 9);
        same("laid back", state(x), was);
        Due.same("size is none of it", x.of(1, 0), 1);
        Due.same("rub is none of it", x.of(0, 10), 3);
        Due.same("skill is none of it", x.of(0, 20), 1);
        Due.same("changes are none of it", x.count(3), 3);
        x.go(50);
        Due.same("back once more", x.back(), 9);
        same("laid back once more", state(x), was);
        x.go(3);
        Due.same("a later image", x.image(), 12);
        x.go(5);
        Due.same("back to the later one", x.back(), 12);
        HoopWaist y = new HoopWaist();
        y.hoop(11);
        y.go(200);
        int fall = y.led(1);
        Due.same("an image of one that lies", y.image(), 200);
        y.lift(0);
        Due.same("back to it", y.back(), 200);
        Due.same("it lies", y.of(0, 4) * 10 + y.of(0, 2), 0);
        Due.same("the fall", y.led(1), fall);
    }

    private static int[] state(HoopWaist x) {
        return new int[] {x.of(0, 15), x.led(0), x.led(1), x.of(0, 2), x.of(0, 3), x.of(0, 4), x.of(1, 2), x.of(1, 3), x.of(1, 4)};
    }

    private static void same(String what, int[] got, int[] want) {
        for (int i = 0; i < want.length; i++) {
            Due.same(what + " " + i, got[i], want[i]);
        }
    }

    private static void laterHoops() {
        HoopWaist x = new HoopWaist();
        x.image();
        x.hoop(99);
        x.hoop(11);
        x.go(5);
        int place = x.of(0, 3);
        int pace = x.of(1, 2);
        int high = x.of(1, 4);
        Due.same("back to no hoops", x.back(), 0);
        Due.same("they stay", x.count(0), 2);
        Due.same("place stays", x.of(0, 3), place);
        Due.same("pace stays", x.of(1, 2), pace);
        Due.same("high stays", x.of(1, 4), high);
        Due.same("pushes are laid back", x.led(0), 0);
    }

    // Promises 32 and 33
    private static void undoAll() {
        HoopWaist x = new HoopWaist();
        x.hoop(46);
        Due.same("nothing to undo", x.undo(), HoopWaist.STATE);
        Due.same("nothing to do again", x.redo(), HoopWaist.STATE);
        int[] to = {9, 8, -7, 3, 20, 19, 5, 12};
        int[] tells = {0, 1, 2, 10, 11, 12, 13, 14};
        int[] was = {4, 6, 4, 1, 6, 0, 2, 1};
        for (int what = 0; what < 8; what++) {
            Due.same("mend " + what, x.mend(0, what, to[what]), was[what]);
            Due.same("count(3)", x.count(3), what + 1);
        }
        for (int what = 7; what >= 0; what--) {
            Due.same("undo " + what, x.undo(), what);
            Due.same("it is as it was " + what, x.of(0, tells[what]), was[what]);
            Due.same("count(3)", x.count(3), what);
        }
        Due.same("no more", x.undo(), HoopWaist.STATE);
        for (int what = 0; what < 8; what++) {
            Due.same("redo " + what, x.redo(), 7 - what);
            Due.same("it is as it became " + what, x.of(0, tells[what]), to[what]);
        }
        Due.same("no more", x.redo(), HoopWaist.STATE);
    }

    private static void sameIsNone() {
        HoopWaist x = new HoopWaist();
        x.hoop(46);
        int[] same = {4, 6, 4, 1, 6, 0, 2, 1};
        for (int what = 0; what < 8; what++) {
            Due.same("the same " + what, x.mend(0, what, same[what]), same[what]);
        }
        Due.same("none", x.count(3), 0);
        x.mend(0, 0, 5);
        x.undo();
        x.mend(0, 1, 6);
        x.mend(0, 1, 10);
        Due.same("the same, and a bad one, let redo be", x.redo(), 0);
        Due.same("size", x.of(0, 0), 5);
    }

    private static void redoEnds() {
        HoopWaist x = new HoopWaist();
        x.hoop(46);
        x.mend(0, 0, 5);
        x.mend(0, 0, 6);
        x.mend(0, 0, 7);
        x.undo();
        x.undo();
        x.mend(0, 3, 0);
        Due.same("another came behind", x.redo(), HoopWaist.STATE);
        Due.same("undo it", x.undo(), 1);
        Due.same("rub", x.of(0, 10), 1);
        Due.same("undo the first", x.undo(), 0);
        Due.same("size", x.of(0, 0), 4);
        x.go(3);
        x.lift(0);
        x.hoop(11);
        x.skill(0, 0);
        Due.same("what is no change lets redo be", x.redo(), 1);
    }

    private static void fortyAtMost() {
        HoopWaist x = new HoopWaist();
        for (int i = 0; i < 45; i++) {
            x.mend(0, 7, i % 2 == 0 ? 2 + i % 10 : 1);
        }
        Due.same("forty are kept", x.count(3), 40);
        for (int i = 39; i >= 0; i--) {
            Due.same("undo", x.undo(), i);
        }
        Due.same("as the fifth left it", x.of(0, 14), 6);
        Due.same("no more", x.undo(), HoopWaist.STATE);
        for (int i = 39; i >= 0; i--) {
            Due.same("redo", x.redo(), i);
        }
        Due.same("as the last left it", x.of(0, 14), 6);
        x.mend(0, 3, 0);
        Due.same("still forty", x.count(3), 40);
        x.undo();
        Due.same("one less", x.count(3), 39);
        x.mend(0, 3, 2);
        Due.same("forty again", x.count(3), 40);
    }

    private static void paceOfOneThatLies() {
        HoopWaist x = new HoopWaist();
        x.hoop(11);
        x.mend(0, 2, -5);
        x.mend(0, 2, 7);
        x.go(200);
        Due.same("undo", x.undo(), 1);
        Due.same("laid as 0", x.of(0, 2), 0);
        x.lift(0);
        Due.same("undo once more", x.undo(), 0);
        Due.same("the pace it had", x.of(0, 2), 4);
        Due.same("redo", x.redo(), 1);
        Due.same("the pace it got", x.of(0, 2), -5);
        x.go(200);
        Due.same("redo of one that lies", x.redo(), 0);
        Due.same("laid as 0", x.of(0, 2), 0);
    }

    private static void phaseAndBeat() {
        HoopWaist x = new HoopWaist();
        x.mend(0, 5, 5);
        x.mend(0, 4, 4);
        Due.same("the phase as told", x.of(0, 12), 5);
        x.go(2);
        Due.same("5 by 4 leaves 1", x.led(0), 1);
        x.mend(0, 5, 1);
        Due.same("another number is a change", x.count(3), 3);
        x.undo();
        Due.same("the phase is above the beat again", x.of(0, 12), 5);
        x.undo();
        Due.same("the beat", x.of(0, 11), 6);
    }
}
