/** Terms 3, music and films, and promises 20 to 22: each sentence that names a bound has a method of its own. */
public final class MusicBoundsTest {
    public static void main(String[] args) {
        theFirstFromNow();
        oneAtLeast();
        othersEndIt();
        behindItsEndNone();
        theSixtiethPush();
        musicLastsTwoHundredAtMost();
        foreAndBackInTurn();
        musicIsNoRowOfBytes();
        judgedTheFirstThatIsNotSo();
        judgedNotIfItEndsBefore();
        judgedFromNow();
        filmIsNoRowOfBytes();
        begunOfAllPaces();
        begunOfOneThatLies();
        begunNone();
        begunIsVoid();
        Due.end();
    }

    /** A hoop that has no pace and sinks within ten ticks, unless a push (of the law's kind) helps. */
    private static HoopWaist sinking(String law) {
        HoopWaist x = Bench.calm(99);
        x.mend(0, 2, 0);
        Bench.tell(x, law);
        return x;
    }

    private static int played(HoopWaist x, int... bytes) {
        Bench.lay(x, 0, bytes);
        return x.music(0);
    }

    /** "PUSHES at just these many TICKS from one to the next (... the first from NOW ...)". */
    private static void theFirstFromNow() {
        for (int first = 1; first <= 9; first++) {
            HoopWaist x = sinking("y=" + (20 - 2 * first) + "?9");
            Due.same("a push " + first + " from NOW", played(x, first), 200);
            Due.same("and 1 later", played(x, first + 1), 9);
            x.go(3);
            if (first > 3) {
                Due.same("from NOW, which is 3", played(x, first - 3), 200);
            }
        }
        HoopWaist y = sinking("y<20&v<9?1");
        Due.same("the last that is not too late", played(y, 9), 200);
        Due.same("one too late", played(y, 10), 9);
        Due.same("at 3 and 5", played(sinking("y=10?9"), 3, 2), 200);
        Due.same("at 3 and 6", played(sinking("y=10?9"), 3, 3), 9);
    }

    /** "(1 at least ...)": a push each tick, the first at 1 from NOW. */
    private static void oneAtLeast() {
        HoopWaist x = sinking("y=18?1;v=1?1;v=2?7");
        Due.same("1, 1, 1", played(x, 1, 1, 1), 200);
        HoopWaist y = Bench.calm(99);
        Bench.tell(y, "0-1");
        Due.same("four at 1 to 4: the pace is 0 from 4 on", played(y, 1, 1, 1, 1), 13);
        Due.same("three are not enough", played(y, 1, 1, 1), 200);
    }

    /** "others end it": 0 and what is below. */
    private static void othersEndIt() {
        int[] ends = {0, -1, -128};
        for (int end : ends) {
            HoopWaist x = sinking("9");
            Due.same("it ends at once by " + end, played(x, end, 1, 1), 9);
            Due.same("it ends behind one by " + end, played(sinking("y=14?9"), 1, end, 2), 9);
            Due.same("what came ahead counts, " + end, played(x, 1, end), 200);
        }
        Due.same("128 is -128 in a byte", played(sinking("9"), 128), 9);
        HoopWaist far = Bench.calm(99);
        Bench.tell(far, "0-9");
        Due.same("127 is the longest", played(far, 127), 136);
    }

    /** "behind its end none": none by BEAT, either. */
    private static void behindItsEndNone() {
        HoopWaist x = sinking("9");
        x.mend(0, 4, 2);
        Due.same("LASTS by BEAT", x.lasts(), 200);
        Due.same("an empty row", played(x), 9);
        Due.same("it ends ahead of all", played(sinking("y=12?9"), 1, 1, 1), 9);
        HoopWaist y = Bench.calm(99);
        Bench.tell(y, "0-1");
        int[] sixty = new int[60];
        java.util.Arrays.fill(sixty, 3);
        y.mend(0, 2, 9);
        Due.same("nine of sixty stop it at 27", played(y, sixty), 36);
        java.util.Arrays.fill(sixty, 1);
        Bench.tell(y, "y=20?0;9");
        Due.same("sixty, each tick", played(y, sixty), 200);
    }

    /** A row has 60 bytes at most: the 60th PUSH still comes. */
    private static void theSixtiethPush() {
        HoopWaist x = Bench.calm(99);
        x.mend(0, 2, 1);
        // By 3 it is always 3, 6, 9 or so from where a push goes; the 60th, back, finds it at 10.
        Bench.tell(x, "n=2?-9");
        int[] sixty = new int[60];
        java.util.Arrays.fill(sixty, 3);
        Due.same("the 60th at 180", played(x, sixty), 200);
        sixty[59] = 1;
        Due.same("the 60th at 178", played(x, sixty), 187);
        Due.same("fifty-nine", played(x, java.util.Arrays.copyOf(sixty, 59)), 200);
        sixty[59] = 0;
        Due.same("the 60th ends it", played(x, sixty), 200);
    }

    /** "LASTS by it": 200 at most; a fall by the 200th counts, one behind it does not. */
    private static void musicLastsTwoHundredAtMost() {
        Due.same("no hoops", played(new HoopWaist(), 1), 200);
        HoopWaist x = Bench.calm(99);
        // By then it is at 0, so that the first push, fore, does nothing.
        Bench.tell(x, "n>0?-9");
        Due.same("stopped at 190, it lies behind 200", played(x, 126, 64), 199);
        Due.same("stopped at 191, it lies behind 201", played(x, 126, 65), 200);
        x.mend(0, 2, 0);
        x.go(10);
        Due.same("one that lies now does not count", played(x, 1), 200);
    }

    /** "the first one fore, the next one back, and so on": of the music's own. */
    private static void foreAndBackInTurn() {
        Due.same("the first goes fore", played(sinking("n=0?9"), 1), 200);
        Due.same("not back", played(sinking("n=12?9"), 1), 9);
        Due.same("the next goes back", played(sinking("n=12?9"), 1, 1), 200);
        Due.same("the third goes fore", played(sinking("n=0&y=14?9"), 1, 1, 1), 200);
        Due.same("the second does not", played(sinking("n=0&y=16?9"), 1, 1, 1), 9);
    }

    /** "BAD, -11, -12 (no ROW of bytes)". */
    private static void musicIsNoRowOfBytes() {
        HoopWaist x = new HoopWaist();
        x.body(0);
        Due.same("nothing", x.music(5), -11);
        x.keep(5, 0);
        Due.same("a turn", x.music(5), -12);
        for (int sort = 0; sort <= 4; sort++) {
            x.row(5, sort, 1);
            Due.same("a row of sort " + sort, x.music(5), sort == 0 ? 200 : -12);
        }
        x.keep(5, -1);
        Due.same("nothing again", x.music(5), -11);
        Due.same("no shelf below", x.music(-1), Bench.BAD);
        Due.same("no shelf above", x.music(6), Bench.BAD);
    }

    /** "PLACES of a HOOP behind TICKS 1 on from NOW: JUDGED: the first that is not so". */
    private static void judgedTheFirstThatIsNotSo() {
        HoopWaist x = Bench.calm(99);
        x.mend(0, 2, 1);
        int[] film = new int[60];
        for (int i = 0; i < 60; i++) {
            film[i] = (i + 1) % 24;
        }
        Bench.lay(x, 0, film);
        Due.same("all sixty are so", x.judge(0, 0), Bench.NOT);
        for (int i = 59; i >= 0; i--) {
            x.put(0, i, film[i] == 23 ? 24 : -1);
            Due.same("the first that is not so", x.judge(0, 0), i);
        }
    }

    /** "NOT (also if it ends before ...)". */
    private static void judgedNotIfItEndsBefore() {
        HoopWaist x = Bench.calm(99);
        Bench.lay(x, 0);
        Due.same("no places", x.judge(0, 0), Bench.NOT);
        Bench.lay(x, 0, 4);
        Due.same("one place", x.judge(0, 0), Bench.NOT);
        Bench.lay(x, 0, 4, 8);
        Due.same("two places", x.judge(0, 0), Bench.NOT);
        Bench.lay(x, 0, 4, 8, 0);
        Due.same("the third is not so", x.judge(0, 0), 2);
    }

    /** "behind TICKS 1 on from NOW": not where it is now. */
    private static void judgedFromNow() {
        HoopWaist x = Bench.calm(99);
        Bench.lay(x, 0, 0, 4);
        Due.same("0 is where it is now", x.judge(0, 0), 0);
        x.go(1);
        Bench.lay(x, 0, 8, 12);
        Due.same("from NOW, which is 1", x.judge(0, 0), Bench.NOT);
        Due.same("NOW is as it was", x.of(0, 15), 1);
    }

    /** "BAD, -11, -12 (no ROW of bytes); NOT": of several the first named. */
    private static void filmIsNoRowOfBytes() {
        HoopWaist x = Bench.calm(99);
        x.body(0);
        Due.same("nothing", x.judge(0, 0), -11);
        Due.same("nothing, and no such hoop", x.judge(0, 1), Bench.BAD);
        x.keep(0, 0);
        Due.same("a turn", x.judge(0, 0), -12);
        Due.same("a turn, and no such hoop", x.judge(0, -1), Bench.BAD);
        for (int sort = 1; sort <= 4; sort++) {
            x.row(0, sort, 1);
            Due.same("a row of sort " + sort, x.judge(0, 0), -12);
        }
        x.row(0, 0, 1);
        Due.same("a row of bytes", x.judge(0, 0), 0);
    }

    /** "BEGUN: of all PACES now ... how many let a FILM be so; the first". */
    private static void begunOfAllPaces() {
        HoopWaist x = Bench.calm(99);
        for (int pace = -9; pace <= 9; pace++) {
            Bench.lay(x, 0, Math.floorMod(pace, 24), Math.floorMod(2 * pace, 24));
            Due.same("one, " + pace, x.begun(0, 0, 0), 1);
            Due.same("the first, " + pace, x.begun(0, 0, 1), pace);
        }
        Bench.lay(x, 0);
        Due.same("an empty film: all", x.begun(0, 0, 0), 19);
        Due.same("the first of all", x.begun(0, 0, 1), -9);
        Bench.lay(x, 0, 9);
        Bench.tell(x, "9");
        Due.same("0 to 9 are pushed to 9", x.begun(0, 0, 0), 10);
        Due.same("the first of them", x.begun(0, 0, 1), 0);
        Bench.lay(x, 0, 15);
        Due.same("-9 to -1 are pushed to -9", x.begun(0, 0, 0), 9);
        Due.same("the first of them", x.begun(0, 0, 1), -9);
        Due.same("the pace is as it was", x.of(0, 2), 4);
    }

    /** "(of one that lies 0 alone)". */
    private static void begunOfOneThatLies() {
        HoopWaist x = Bench.calm(99);
        Bench.sink(x, 0);
        Bench.lay(x, 0);
        Due.same("an empty film: one", x.begun(0, 0, 0), 1);
        Due.same("it is 0", x.begun(0, 0, 1), 0);
        Bench.lay(x, 0, 0, 0);
        Due.same("it lies at 0", x.begun(0, 0, 0), 1);
        Bench.lay(x, 0, 1);
        Due.same("1 is not so", x.begun(0, 0, 0), 0);
        Due.same("none", x.begun(0, 0, 1), Bench.NOT);
    }

    /** "NOT (1; so -2 may be either)": none fits, or -2 does. */
    private static void begunNone() {
        HoopWaist x = Bench.calm(99);
        Bench.lay(x, 0, 12);
        Due.same("no pace comes to 12", x.begun(0, 0, 0), 0);
        Due.same("none", x.begun(0, 0, 1), Bench.NOT);
        Bench.lay(x, 0, 22);
        Due.same("-2 comes to 22", x.begun(0, 0, 0), 1);
        Due.same("it is -2", x.begun(0, 0, 1), -2);
    }

    /** "VOID: BAD, or no ROW of bytes". */
    private static void begunIsVoid() {
        HoopWaist x = Bench.calm(99);
        x.body(0);
        for (int what = 0; what <= 1; what++) {
            x.keep(0, -1);
            Due.same("nothing", x.begun(0, 0, what), Bench.VOID);
            x.keep(0, 0);
            Due.same("a turn", x.begun(0, 0, what), Bench.VOID);
            for (int sort = 1; sort <= 4; sort++) {
                x.row(0, sort, 0);
                Due.same("a row of sort " + sort, x.begun(0, 0, what), Bench.VOID);
            }
        }
    }
}
