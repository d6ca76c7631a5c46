/** Terms 3, LED, changes and the image, and promises 4, 10, 30 to 33: each sentence that names a bound, by hand. */
public final class ChangesBoundsTest {
    private static final int[] TOLD_AS = {0, 1, 2, 10, 11, 12, 13, 14};

    public static void main(String[] args) {
        pushesSoFar();
        theLatestFall();
        theSameNumberIsNone();
        aRefusedOneIsNone();
        whatIsNoChange();
        theLatestFirst();
        againAsLongAsNoOtherCame();
        fortyAtMost();
        fortyOfAllKinds();
        fortyAtMostBehindUndoing();
        phaseOfBeatOrMore();
        paceOfOneThatLies();
        noneToUndo();
        noImage();
        theImageKeeps();
        theImageKeepsNoMore();
        hoopsThatCameSince();
        Due.end();
    }

    /** "LED: of the latest TICKS in deed (go()): how many PUSHES so far". */
    private static void pushesSoFar() {
        HoopWaist x = new HoopWaist();
        Due.same("none yet", x.led(0), 0);
        x.go(1);
        Due.same("the one at 0", x.led(0), 1);
        x.go(5);
        Due.same("still the one at 0", x.led(0), 1);
        x.go(1);
        Due.same("the one at 6", x.led(0), 2);
        x.go(200);
        Due.same("206 ticks more, at 12 to 204", x.led(0), 35);
        x.mend(0, 4, 2);
        x.mend(0, 5, 1);
        x.go(2);
        Due.same("one more by another BEAT", x.led(0), 36);
        x.hoop(55);
        x.lasts();
        x.beatFor(0);
        x.mistake(0, 0);
        x.held(1);
        x.rescue(0, 100);
        x.start(0);
        Due.same("none in thought", x.led(0), 36);
        Due.same("a go that is BAD", x.go(0), Bench.BAD);
        Due.same("none by it", x.led(0), 36);
    }

    /** "the latest TICK at which a HOOP fell (NOT)". */
    private static void theLatestFall() {
        HoopWaist x = Bench.calm(99, 99);
        x.mend(0, 2, 0);
        x.go(9);
        Due.same("none fell yet", x.led(1), Bench.NOT);
        x.go(1);
        Due.same("TICK 9", x.led(1), 9);
        x.go(20);
        Due.same("still TICK 9", x.led(1), 9);
        x.mend(1, 2, 0);
        x.go(200);
        Due.same("the later one, TICK 39", x.led(1), 39);
        x.lift(0);
        Due.same("taken up, it fell nonetheless", x.led(1), 39);
        HoopWaist y = Bench.calm(99);
        y.mend(0, 2, 0);
        y.falls(0);
        y.lasts();
        Due.same("none in thought", y.led(1), Bench.NOT);
    }

    private static HoopWaist withEight(int[] became) {
        HoopWaist x = new HoopWaist();
        x.hoop(46);
        for (int what = 0; what < 8; what++) {
            x.mend(0, what, became[what]);
        }
        return x;
    }

    /** "telling the same number is none". */
    private static void theSameNumberIsNone() {
        int[] same = {4, 6, 4, 1, 6, 0, 2, 1};
        HoopWaist x = withEight(same);
        Due.same("none of eight", x.count(3), 0);
        Due.same("nothing to undo", x.undo(), Bench.STATE);
        x.mend(0, 0, 5);
        x.mend(0, 0, 5);
        Due.same("one of two", x.count(3), 1);
        x.undo();
        for (int what = 0; what < 8; what++) {
            Due.same("it is so", x.mend(0, what, same[what]), same[what]);
        }
        Due.same("redo still may be", x.redo(), 0);
        HoopWaist y = new HoopWaist();
        y.mend(0, 4, 24);
        y.mend(0, 5, 7);
        y.mend(0, 4, 4);
        Due.same("PHASE 3 is another number than 7", y.mend(0, 5, 3), 7);
        Due.same("so it is a change", y.count(3), 4);
    }

    /** "What is answered so changes nothing": a number out of bounds is no change, and redo still may be. */
    private static void aRefusedOneIsNone() {
        HoopWaist x = new HoopWaist();
        x.hoop(46);
        x.mend(0, 0, 5);
        x.undo();
        int[][] bad = {{0, 0, 10}, {0, 1, 0}, {0, 2, 10}, {0, 3, 4}, {0, 4, 1}, {0, 5, 6}, {0, 6, 6}, {0, 7, 13}, {1, 0, 3}, {0, 8, 0}};
        for (int[] b : bad) {
            Due.same("refused", x.mend(b[0], b[1], b[2]), Bench.VOID);
        }
        Due.same("none", x.count(3), 0);
        Due.same("redo still may be", x.redo(), 0);
        Due.same("size", x.of(0, 0), 5);
    }

    /** "CHANGES (SIZE, HEAVY, PACE of HOOPS; RUB, BEAT, PHASE, STRENGTH, KNOCK ...)": nothing else is one. */
    private static void whatIsNoChange() {
        HoopWaist x = Bench.calm(99);
        x.mend(0, 0, 8);
        x.undo();
        x.skill(0, 3);
        x.learn(0, 3);
        x.hoop(11);
        Bench.lay(x, 0, 5, 5, 5);
        x.hoops(0, 0, 1);
        Bench.tell(x, "1");
        x.go(30);
        x.image();
        x.back();
        x.body(0);
        x.act(0, 0, 1);
        Due.same("RUB alone may be undone", x.count(3), 1);
        Due.same("SIZE may be done again", x.redo(), 0);
    }

    /** "can be UNDONE, the latest first, and DONE AGAIN": all eight kinds, to their bounds. */
    private static void theLatestFirst() {
        int[] was = {4, 6, 4, 1, 6, 0, 2, 1};
        int[][] bounds = {{1, 1, -9, 0, 2, 1, 0, 0}, {9, 9, 9, 3, 24, 23, 5, 12}};
        for (int[] became : bounds) {
            HoopWaist x = withEight(became);
            for (int i = 7; i >= 0; i--) {
                Due.same("undo", x.undo(), i);
                for (int what = 0; what < 8; what++) {
                    Due.same("of " + what, x.of(0, TOLD_AS[what]), what < i ? became[what] : was[what]);
                }
            }
            Due.same("none is left", x.undo(), Bench.STATE);
            for (int i = 0; i < 8; i++) {
                Due.same("redo", x.redo(), 7 - i);
                for (int what = 0; what < 8; what++) {
                    Due.same("of " + what, x.of(0, TOLD_AS[what]), what <= i ? became[what] : was[what]);
                }
            }
            Due.same("none is left", x.redo(), Bench.STATE);
        }
    }

    /** "DONE AGAIN (as long as no other came behind)". */
    private static void againAsLongAsNoOtherCame() {
        HoopWaist x = new HoopWaist();
        x.mend(0, 7, 2);
        x.mend(0, 7, 3);
        x.undo();
        x.undo();
        Due.same("one again", x.redo(), 1);
        x.mend(0, 7, 9);
        Due.same("another came behind", x.redo(), Bench.STATE);
        Due.same("two may be undone", x.count(3), 2);
        x.undo();
        Due.same("2 again", x.of(0, 14), 2);
        Due.same("that other may be done again", x.redo(), 0);
        Due.same("9", x.of(0, 14), 9);
    }

    /** "40 at most are kept": of 41 the first can't be undone. */
    private static void fortyAtMost() {
        for (int many = 39; many <= 42; many++) {
            HoopWaist x = new HoopWaist();
            for (int i = 1; i <= many; i++) {
                x.mend(0, 7, (1 + i) % 13);
            }
            Due.same("kept of " + many, x.count(3), Math.min(40, many));
            for (int i = Math.min(40, many) - 1; i >= 0; i--) {
                Due.same("undo", x.undo(), i);
            }
            Due.same("no more", x.undo(), Bench.STATE);
            Due.same("what stands behind them", x.of(0, 14), many <= 40 ? 1 : 1 + many - 40);
            for (int i = Math.min(40, many) - 1; i >= 0; i--) {
                Due.same("redo", x.redo(), i);
            }
            Due.same("no more", x.redo(), Bench.STATE);
            Due.same("as it was", x.of(0, 14), (1 + many) % 13);
        }
    }

    /** "40 at most are kept": each with its HOOP, what it was and what it became; five hoops and the settings in turn. */
    private static void fortyOfAllKinds() {
        HoopWaist x = new HoopWaist();
        for (int i = 0; i < 5; i++) {
            x.hoop(55);
        }
        int[] number = new int[47];
        int[] what = new int[47];
        int[] was = new int[47];
        for (int i = 0; i < 47; i++) {
            what[i] = i * 3 % 8;
            number[i] = what[i] < 3 ? i % 5 : 0;
            was[i] = x.of(number[i], TOLD_AS[what[i]]);
            Due.same("what it was", x.mend(number[i], what[i], another(what[i], was[i])), was[i]);
        }
        for (int i = 46; i >= 7; i--) {
            Due.same("it became", x.of(number[i], TOLD_AS[what[i]]), another(what[i], was[i]));
            Due.same("undo", x.undo(), i - 7);
            Due.same("it was", x.of(number[i], TOLD_AS[what[i]]), was[i]);
        }
        Due.same("seven are kept no more", x.undo(), Bench.STATE);
        for (int i = 7; i < 47; i++) {
            Due.same("it was", x.of(number[i], TOLD_AS[what[i]]), was[i]);
            Due.same("redo", x.redo(), 46 - i);
            Due.same("it became", x.of(number[i], TOLD_AS[what[i]]), another(what[i], was[i]));
        }
        Due.same("all forty are done again", x.redo(), Bench.STATE);
    }

    /** A number within the bounds of what is told, and not the same one. */
    private static int another(int what, int was) {
        int[] least = {1, 1, -9, 0, 20, 0, 0, 0};
        int[] most = {9, 9, 9, 3, 24, 19, 5, 12};
        return was < least[what] || was >= most[what] ? least[what] : was + 1;
    }

    /** "40 at most are kept": undoing makes room. */
    private static void fortyAtMostBehindUndoing() {
        HoopWaist x = new HoopWaist();
        for (int i = 0; i < 40; i++) {
            x.mend(0, 3, i % 2 == 0 ? 2 : 1);
        }
        Due.same("forty", x.count(3), 40);
        Due.same("one undone", x.undo(), 39);
        x.mend(0, 3, 3);
        Due.same("forty again, none is lost", x.count(3), 40);
        for (int i = 39; i >= 0; i--) {
            x.undo();
        }
        Due.same("as at first", x.of(0, 10), 1);
        Due.same("forty may be done again", x.redo(), 39);
    }

    /** "(A PHASE of BEAT or more: what is left.)": also when undoing brings it there. */
    private static void phaseOfBeatOrMore() {
        HoopWaist x = new HoopWaist();
        x.mend(0, 4, 10);
        x.mend(0, 5, 9);
        x.mend(0, 5, 3);
        x.mend(0, 4, 4);
        Due.same("PHASE of BEAT is refused", x.mend(0, 5, 4), Bench.VOID);
        Due.same("PHASE below BEAT", x.mend(0, 5, 1), 3);
        x.undo();
        x.undo();
        x.undo();
        Due.same("9 of 10", x.of(0, 12) * 100 + x.of(0, 11), 910);
        x.mend(0, 4, 4);
        Due.same("9 as told, of 4", x.of(0, 12) * 100 + x.of(0, 11), 904);
        x.go(1);
        Due.same("no push at 0", x.led(0), 0);
        x.go(1);
        Due.same("9 by 4 leaves 1", x.led(0), 1);
        x.undo();
        x.undo();
        x.undo();
        Due.same("all undone", x.of(0, 12) * 100 + x.of(0, 11), 6);
    }

    /** "(... PACE of one that lies is laid as 0.)" */
    private static void paceOfOneThatLies() {
        HoopWaist x = Bench.calm(99);
        x.mend(0, 2, 7);
        x.mend(0, 2, 0);
        x.go(10);
        Due.same("it lies", x.count(1), 0);
        Due.same("undo", x.undo(), 2);
        Due.same("laid as 0", x.of(0, 2), 0);
        Due.same("it lies still", x.of(0, 4), 0);
        Due.same("undo once more", x.undo(), 1);
        Due.same("laid as 0, too", x.of(0, 2), 0);
        Due.same("redo", x.redo(), 1);
        Due.same("laid as 0 by redo", x.of(0, 2), 0);
        x.lift(0);
        Due.same("undo of one that is up", x.undo(), 1);
        Due.same("the 4 it had", x.of(0, 2), 4);
        Due.same("redo of one that is up", x.redo(), 1);
        Due.same("the 7 it got", x.of(0, 2), 7);
        Due.same("told 0 for one that lies, not laid", x.mend(0, 2, 7), 7);
    }

    /** "STATE: none", for undo and redo. */
    private static void noneToUndo() {
        HoopWaist x = new HoopWaist();
        Due.same("undo", x.undo(), Bench.STATE);
        Due.same("redo", x.redo(), Bench.STATE);
        x.mend(0, 3, 0);
        Due.same("redo without undo", x.redo(), Bench.STATE);
        Due.same("undo", x.undo(), 0);
        Due.same("undo, none is left", x.undo(), Bench.STATE);
        Due.same("redo", x.redo(), 0);
        Due.same("redo, none is left", x.redo(), Bench.STATE);
        Due.same("it stands", x.of(0, 10), 0);
    }

    /** "STATE: there is none", for back. */
    private static void noImage() {
        HoopWaist x = new HoopWaist();
        x.hoop(53);
        x.go(5);
        Due.same("none", x.back(), Bench.STATE);
        Due.same("NOW is as it was", x.of(0, 15), 5);
        Due.same("one", x.image(), 5);
        Due.same("there is one", x.back(), 5);
        Due.same("there still is", x.back(), 5);
    }

    /** "AN IMAGE keeps NOW, PLACE, PACE, HIGH of HOOPS, what LED tells." */
    private static void theImageKeeps() {
        HoopWaist x = Bench.calm(99, 99);
        x.mend(1, 2, 0);
        x.go(10);
        x.mend(0, 2, 3);
        String first = Bench.way(x, 0);
        Due.same("NOW", x.image(), 10);
        x.lift(1);
        x.mend(1, 2, 0);
        x.mend(0, 2, 0);
        x.go(200);
        Due.same("both lie", x.count(1), 0);
        Due.same("back", x.back(), 10);
        Due.same("NOW again", x.of(0, 15), 10);
        Due.holds("the first as it was", Bench.way(x, 0).equals(first));
        Due.holds("the second lies as it did", Bench.way(x, 1).equals("0 0 0"));
        Due.same("PUSHES so far", x.led(0), 2);
        Due.same("the latest fall", x.led(1), 9);
        HoopWaist y = Bench.calm(99);
        y.image();
        Bench.sink(y, 0);
        Due.same("back to 0", y.back(), 0);
        Due.same("none fell", y.led(1), Bench.NOT);
        Due.same("no push", y.led(0), 0);
        Due.holds("as at first", Bench.way(y, 0).equals("4 0 20"));
    }

    /** What an image does not keep stays as it is: SIZE, HEAVY, settings, changes, skills, the law, the tape. */
    private static void theImageKeepsNoMore() {
        HoopWaist x = Bench.calm(99);
        x.image();
        int[] became = {3, 4, 5, 2, 20, 19, 5, 11};
        for (int what = 0; what < 8; what++) {
            x.mend(0, what, became[what]);
        }
        x.skill(4, 2);
        x.learn(4, 1);
        Bench.tell(x, "3");
        x.feed('n');
        x.back();
        became[2] = 4;
        for (int what = 0; what < 8; what++) {
            Due.same("of " + what, x.of(0, TOLD_AS[what]), became[what]);
        }
        Due.same("changes", x.count(3), 9);
        Due.same("SKILL and its minutes", x.of(4, 20) * 10 + x.of(4, 21), 21);
        Due.same("the tape", x.count(2), 1);
        x.mend(0, 5, 0);
        Due.same("the law", x.then(0, 1, 1), 7);
    }

    /** "(HOOPS that came since stay as they are)". */
    private static void hoopsThatCameSince() {
        HoopWaist x = Bench.calm(99);
        x.go(3);
        x.image();
        x.hoop(88);
        Bench.lay(x, 0, 7, 7, -7);
        x.hoops(0, 0, 1);
        x.go(2);
        String second = Bench.way(x, 1);
        String third = Bench.way(x, 2);
        Due.same("back", x.back(), 3);
        Due.same("they are there", x.count(0), 3);
        Due.holds("the first is as it was", Bench.way(x, 0).equals("4 12 20"));
        Due.holds("the second stays", Bench.way(x, 1).equals(second) && second.equals("4 8 20"));
        Due.holds("the third stays", Bench.way(x, 2).equals(third) && third.equals("-7 10 20"));
    }
}
