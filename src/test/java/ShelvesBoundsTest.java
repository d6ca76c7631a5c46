/** Terms 4 and promises 3, 34 to 43: each sentence that names a bound has a method of its own, by hand. */
public final class ShelvesBoundsTest {
    private static final int NOTHING = -11, OTHER = -12, NO_PLACE = -13, BELOW = -14;

    public static void main(String[] args) {
        fiftyBodies();
        kindsFromZeroToSeven();
        anIntThatWraps();
        noSuchTurnOrAct();
        theTrace();
        sixShelves();
        whatAShelfHolds();
        zeroToSixtyElements();
        zeroAtFirst();
        theLowestBits();
        aSizeBelowZero();
        nothingIsThere();
        itIsOfAnotherKind();
        aPlaceThatIsNotThere();
        shiftWithinTheRows();
        shiftOfNone();
        shiftAsTheyWereBefore();
        shiftUnlikeSorts();
        takenForAKind();
        hoopsWhereTheRowIsMissing();
        hoopsWhereTheRowEnds();
        hoopsWhereOneIsNotSo();
        hoopsUntilFull();
        hoopsOfAnotherKind();
        howMany();
        Due.end();
    }

    /** "BODIES 0 .. 49"; "BAD, FULL". */
    private static void fiftyBodies() {
        HoopWaist x = new HoopWaist();
        for (int i = 0; i < 50; i++) {
            Due.same("its number", x.body(7), i);
        }
        Due.same("a 51st", x.body(7), Bench.FULL);
        Due.same("still fifty", x.count(4), 50);
        Due.same("the last acts", x.act(49, 0, 1), 53);
        Due.same("there is no 50", x.act(50, 0, 1), 0);
        Due.same("the last can be kept", x.keep(0, 49), 1);
        Due.same("50 can't", x.keep(0, 50), Bench.BAD);
    }

    /** "A TURN of a KIND (0 .. 7)". */
    private static void kindsFromZeroToSeven() {
        HoopWaist x = new HoopWaist();
        Due.same("-1", x.body(-1), Bench.BAD);
        Due.same("8", x.body(8), Bench.BAD);
        Due.same("none came", x.count(4), 0);
        for (int kind = 0; kind <= 7; kind++) {
            Due.same("its number", x.body(kind), kind);
            x.keep(0, kind);
            Due.same("its KIND", x.taken(0, kind), kind);
        }
    }

    /** "ACTS with x (an int that wraps)". */
    private static void anIntThatWraps() {
        int most = Integer.MAX_VALUE;
        int least = Integer.MIN_VALUE;
        HoopWaist x = new HoopWaist();
        for (int kind = 0; kind <= 7; kind++) {
            x.body(kind);
        }
        Due.same("HELD 1 pushes the most: and 1, and 3", x.act(1, 0, most), least + 3);
        Due.same("TURN 0 turns the most", x.act(0, 1, most), -2);
        Due.same("TURN 0 turns the least", x.act(0, 1, least), 0);
        Due.same("FAILING 2 turns the most", x.act(2, 1, most), -2);
        Due.same("SUNK 3 turns the most: 1 more, and 3, doubled, negative", x.act(3, 1, most), -6);
        Due.same("SUNK 3 sinks the most, by 3", x.act(3, 2, most), (most ^ 3) * 3);
        Due.same("RESCUED 4 sinks the least", x.act(4, 2, least), (least ^ 4) - 9);
        Due.same("IDLE 6 pushes the most", x.act(6, 0, most), 2 * (most + 6));
        Due.same("TURN 0 tells the least", x.act(0, 3, least), -1);
        Due.same("FAILING 2 turns so that it is the least, whose negative is itself", x.act(2, 1, 0x3FFFFFFE), least);
        Due.same("CROSSED 5 tells the most: 1 more is the least, doubled 10, negative, less 12", x.act(5, 3, most), (-10 - 12) ^ 5);
        Due.same("KNOCKED 7 turns the least", x.act(7, 1, least), 2 * (least + 10) + (2 ^ 7) - 12);
    }

    /** "0, and no TRACE then: no such TURN, ACT." */
    private static void noSuchTurnOrAct() {
        int[][] none = {{2, 0}, {-1, 0}, {0, 4}, {0, -1}, {50, 3}, {Integer.MIN_VALUE, 0}, {0, Integer.MAX_VALUE}};
        for (int[] n : none) {
            HoopWaist x = new HoopWaist();
            x.body(0);
            x.body(1);
            x.act(1, 0, 5);
            Due.same("two ran", x.count(5), 2);
            Due.same("no such turn, act", x.act(n[0], n[1], 5), 0);
            Due.same("none ran", x.count(5), 0);
            Due.same("no trace", x.trace(0), Bench.BAD);
            Due.same("no trace at 1", x.trace(1), Bench.BAD);
        }
        Due.same("no turns at all", new HoopWaist().act(0, 0, 5), 0);
    }

    /** "THE TRACE: numbers of the bodies that ran in the latest act(), as they began; the first 24 are kept." */
    private static void theTrace() {
        HoopWaist x = new HoopWaist();
        Due.same("no act yet", x.trace(0), Bench.BAD);
        x.body(7);
        x.body(5);
        x.act(0, 3, 1);
        int[] longest = {81, 2, 80, 10, 20, 1, 50, 11, 20, 1, 50, 11, 20, 1};
        for (int i = 0; i < longest.length; i++) {
            Due.same("as they began", x.trace(i), longest[i]);
        }
        Due.same("behind the last", x.trace(14), Bench.BAD);
        Due.same("ahead of the first", x.trace(-1), Bench.BAD);
        Due.same("all that ran", x.count(5), 14);
        x.act(1, 3, 1);
        int[] shorter = {60, 2, 41, 30, 10, 1, 40, 11};
        for (int i = 0; i < shorter.length; i++) {
            Due.same("the latest alone", x.trace(i), shorter[i]);
        }
        Due.same("nothing of the one before", x.trace(8), Bench.BAD);
        Due.same("eight ran", x.count(5), 8);
        int[] far = {23, 24, 25, Integer.MAX_VALUE, Integer.MIN_VALUE};
        for (int i : far) {
            Due.same("trace(" + i + ")", x.trace(i), Bench.BAD);
        }
        Due.same("asking changes nothing", x.count(5), 8);
    }

    /** "SHELVES 0 .. 5". */
    private static void sixShelves() {
        HoopWaist x = new HoopWaist();
        for (int shelf = 0; shelf < 6; shelf++) {
            Due.same("a row", x.row(shelf, 2, 1), 1);
            Due.same("put", x.put(shelf, 0, 100 + shelf), 1);
        }
        for (int shelf = 0; shelf < 6; shelf++) {
            Due.same("each has its own", x.element(shelf, 0), 100 + shelf);
        }
        Due.same("6", x.row(6, 2, 1), Bench.BAD);
        Due.same("-1", x.row(-1, 2, 1), Bench.BAD);
    }

    /** "each hold nothing (at first), a TURN (a BODY), or a ROW". */
    private static void whatAShelfHolds() {
        HoopWaist x = new HoopWaist();
        x.body(0);
        for (int shelf = 0; shelf < 6; shelf++) {
            Due.same("nothing at first", x.taken(shelf, 0), NOTHING);
            Due.same("nothing by keep", x.keep(shelf, -1), 1);
            Due.same("nothing", x.taken(shelf, 0), NOTHING);
            x.row(shelf, 3, 2);
            Due.same("a row for nothing", x.taken(shelf, 0), OTHER);
            x.keep(shelf, 0);
            Due.same("a turn for a row", x.put(shelf, 0, 1), OTHER);
            x.row(shelf, 1, 2);
            Due.same("a row for a turn", x.put(shelf, 1, 1), 1);
            x.keep(shelf, -1);
            Due.same("nothing for a row", x.put(shelf, 1, 1), NOTHING);
            x.row(shelf, 1, 2);
            Due.same("a new row has nothing of the old one", x.element(shelf, 1), 0);
        }
        Due.same("-2 is no body", x.keep(0, -2), Bench.BAD);
        Due.same("1 is no body", x.keep(0, 1), Bench.BAD);
    }

    /** "of 0 .. 60 elements"; "BAD (sort, n above 60)". */
    private static void zeroToSixtyElements() {
        HoopWaist x = new HoopWaist();
        for (int sort = 0; sort <= 4; sort++) {
            Due.same("0", x.row(0, sort, 0), 1);
            Due.same("it has no place 0", x.put(0, 0, 1), NO_PLACE);
            Due.same("60", x.row(0, sort, 60), 1);
            Due.same("its last place", x.put(0, 59, 1), 1);
            Due.same("behind it", x.put(0, 60, 1), NO_PLACE);
            Due.same("61", x.row(0, sort, 61), Bench.BAD);
            Due.same("the row is as it was", x.element(0, 59), 1);
        }
        Due.same("sort 5", x.row(0, 5, 1), Bench.BAD);
        Due.same("sort -1", x.row(0, -1, 1), Bench.BAD);
    }

    /** "0 at first (false)". */
    private static void zeroAtFirst() {
        for (int sort = 0; sort <= 4; sort++) {
            HoopWaist x = new HoopWaist();
            x.row(1, (sort + 1) % 5, 60);
            for (int i = 0; i < 60; i++) {
                x.put(1, i, 1);
            }
            x.row(1, sort, 60);
            for (int i = 0; i < 60; i++) {
                Due.same("0", x.element(1, i), 0);
                x.put(1, i, 1);
            }
        }
        HoopWaist x = new HoopWaist();
        x.row(1, 0, 60);
        x.put(1, 59, 1);
        x.row(1, 0, 5);
        x.row(1, 0, 60);
        Due.same("a shorter row between leaves nothing behind", x.element(1, 59), 0);
    }

    /** "what is put in keeps its lowest bits (a boolean: whether it is not 0; 1 or 0)". */
    private static void theLowestBits() {
        HoopWaist x = new HoopWaist();
        for (int sort = 0; sort <= 4; sort++) {
            x.row(sort, sort, 1);
        }
        long[][] rows = {{0, 127, 127}, {0, 128, -128}, {0, -128, -128}, {0, -129, 127}, {0, 256, 0}, {0, 1L << 40, 0},
            {1, 32767, 32767}, {1, 32768, -32768}, {1, -32769, 32767}, {1, 65536, 0},
            {2, 2147483647L, 2147483647L}, {2, 2147483648L, -2147483648L}, {2, -2147483649L, 2147483647L}, {2, 1L << 32, 0},
            {3, Long.MAX_VALUE, Long.MAX_VALUE}, {3, Long.MIN_VALUE, Long.MIN_VALUE}, {3, 1L << 32, 1L << 32},
            {4, 0, 0}, {4, 1, 1}, {4, 2, 1}, {4, -1, 1}, {4, 256, 1}, {4, 1L << 32, 1}, {4, Long.MIN_VALUE, 1}};
        for (long[] r : rows) {
            int shelf = (int) r[0];
            Due.same("put", x.put(shelf, 0, r[1]), 1);
            Due.same(r[1] + " in sort " + shelf, x.element(shelf, 0), r[2]);
        }
    }

    /** "-14 a size below 0". */
    private static void aSizeBelowZero() {
        HoopWaist x = new HoopWaist();
        x.row(0, 0, 2);
        x.put(0, 1, 7);
        for (int sort = 0; sort <= 4; sort++) {
            Due.same("-1", x.row(0, sort, -1), BELOW);
            Due.same("the least", x.row(0, sort, Integer.MIN_VALUE), BELOW);
        }
        Due.same("the row is as it was", x.element(0, 1), 7);
        Due.same("on an empty shelf", x.row(1, 0, -1), BELOW);
        Due.same("it holds nothing", x.put(1, 0, 0), NOTHING);
        Due.same("no such sort is named first", x.row(0, 5, -1), Bench.BAD);
        Due.same("no such shelf is named first", x.row(6, 0, -1), Bench.BAD);
    }

    /** "-11 nothing is there where something is wanted". */
    private static void nothingIsThere() {
        HoopWaist x = new HoopWaist();
        x.hoop(55);
        x.row(1, 0, 3);
        Due.same("music", x.music(0), NOTHING);
        Due.same("judge", x.judge(0, 0), NOTHING);
        Due.same("put", x.put(0, 0, 1), NOTHING);
        Due.same("put, no place either", x.put(0, -1, 1), NOTHING);
        Due.same("element", x.element(0, 0), Long.MIN_VALUE);
        Due.same("shift from", x.shift(0, 0, 1, 0, 1), NOTHING);
        Due.same("shift to", x.shift(1, 0, 0, 0, 1), NOTHING);
        Due.same("shift of none", x.shift(0, 0, 0, 0, 0), NOTHING);
        Due.same("shift to, no place either", x.shift(1, 9, 0, 9, 9), NOTHING);
        Due.same("taken", x.taken(0, 0), NOTHING);
    }

    /** "-12 it is of another kind". */
    private static void itIsOfAnotherKind() {
        HoopWaist x = new HoopWaist();
        x.hoop(55);
        x.body(1);
        x.keep(0, 0);
        x.row(1, 0, 3);
        Due.same("music", x.music(0), OTHER);
        Due.same("judge", x.judge(0, 0), OTHER);
        Due.same("hoops", x.hoops(0, 0, 1), OTHER);
        Due.same("put", x.put(0, 0, 1), OTHER);
        Due.same("put, no place either", x.put(0, 99, 1), OTHER);
        Due.same("element", x.element(0, 0), Long.MIN_VALUE);
        Due.same("shift from a turn", x.shift(0, 0, 1, 0, 1), OTHER);
        Due.same("shift to a turn", x.shift(1, 0, 0, 0, 1), OTHER);
        Due.same("shift from a turn to a turn", x.shift(0, 0, 0, 0, 0), OTHER);
        Due.same("shift from a turn to nothing", x.shift(0, 0, 2, 0, 0), NOTHING);
        Due.same("shift to a turn, no place either", x.shift(1, 9, 0, 9, 9), OTHER);
        Due.same("a row taken for a turn", x.taken(1, 0), OTHER);
        Due.same("HELD taken for FAILING", x.taken(0, 2), OTHER);
        Due.same("HELD taken for RESCUED, which is under it", x.taken(0, 4), OTHER);
    }

    /** "-13 a place that is not there". */
    private static void aPlaceThatIsNotThere() {
        HoopWaist x = new HoopWaist();
        x.row(0, 3, 4);
        int[] no = {Integer.MIN_VALUE, -1, 4, 59, 60, Integer.MAX_VALUE};
        for (int i : no) {
            Due.same("put at " + i, x.put(0, i, 9), NO_PLACE);
            Due.same("element at " + i, x.element(0, i), Long.MIN_VALUE);
        }
        for (int i = 0; i < 4; i++) {
            Due.same("nothing came", x.element(0, i), 0);
            Due.same("put at " + i, x.put(0, i, 9), 1);
        }
    }

    /** "n elements of a ROW from i on come to another one ... from j on: n ... -13". */
    private static void shiftWithinTheRows() {
        HoopWaist x = new HoopWaist();
        Bench.lay(x, 0, 1, 2, 3, 4, 5);
        Bench.lay(x, 1, 9, 9, 9);
        int[][] no = {{0, 0, 4}, {3, 0, 3}, {0, 1, 3}, {0, 3, 1}, {5, 0, 1}, {-1, 0, 1}, {0, -1, 1}, {6, 0, 0}, {0, 4, 0}, {0, 0, -1},
            {Integer.MAX_VALUE, 0, 1}, {0, Integer.MAX_VALUE, 1}, {0, 0, Integer.MAX_VALUE}, {1, 1, Integer.MAX_VALUE},
            {Integer.MIN_VALUE, 0, 1}, {0, Integer.MIN_VALUE, 1}, {0, 0, Integer.MIN_VALUE}, {4, 2, Integer.MIN_VALUE}};
        for (int[] n : no) {
            Due.same("shift " + n[0] + " " + n[1] + " " + n[2], x.shift(0, n[0], 1, n[1], n[2]), NO_PLACE);
            Due.same("nothing came", x.element(1, 0) + x.element(1, 1) + x.element(1, 2), 27);
        }
        Due.same("all that fits", x.shift(0, 2, 1, 0, 3), 3);
        Due.same("they came", x.element(1, 0) * 100 + x.element(1, 1) * 10 + x.element(1, 2), 345);
        Due.same("the last to the last", x.shift(0, 0, 1, 2, 1), 1);
        Due.same("it came", x.element(1, 2), 1);
    }

    /** n of 0: nothing comes, as long as both places are there or just behind the end. */
    private static void shiftOfNone() {
        HoopWaist x = new HoopWaist();
        Bench.lay(x, 0, 1, 2);
        x.row(1, 0, 0);
        Due.same("behind both ends", x.shift(0, 2, 1, 0, 0), 0);
        Due.same("one further", x.shift(0, 3, 1, 0, 0), NO_PLACE);
        Due.same("one further, the other", x.shift(0, 2, 1, 1, 0), NO_PLACE);
        Due.same("one of an empty row", x.shift(1, 0, 0, 0, 1), NO_PLACE);
        Due.same("all is as it was", x.element(0, 0) * 10 + x.element(0, 1), 12);
    }

    /** "(or the same) ... as they all were before". */
    private static void shiftAsTheyWereBefore() {
        HoopWaist x = new HoopWaist();
        Bench.lay(x, 0, 1, 2, 3, 4, 5);
        Due.same("toward the end", x.shift(0, 0, 0, 1, 4), 4);
        int[] end = {1, 1, 2, 3, 4};
        for (int i = 0; i < 5; i++) {
            Due.same("element " + i, x.element(0, i), end[i]);
        }
        Bench.lay(x, 0, 1, 2, 3, 4, 5);
        Due.same("toward the start", x.shift(0, 1, 0, 0, 4), 4);
        int[] start = {2, 3, 4, 5, 5};
        for (int i = 0; i < 5; i++) {
            Due.same("element " + i, x.element(0, i), start[i]);
        }
        Due.same("onto itself", x.shift(0, 0, 0, 0, 5), 5);
        Due.same("all is as it was", x.element(0, 0) * 10 + x.element(0, 4), 25);
    }

    /** "-12 (no ROWS, or of unlike sorts)". */
    private static void shiftUnlikeSorts() {
        for (int from = 0; from <= 4; from++) {
            for (int to = 0; to <= 4; to++) {
                HoopWaist x = new HoopWaist();
                x.row(0, from, 2);
                x.row(1, to, 2);
                x.put(0, 1, 1);
                Due.same("sort " + from + " to " + to, x.shift(0, 1, 1, 0, 1), from == to ? 1 : OTHER);
                Due.same("it came", x.element(1, 0), from == to ? 1 : 0);
                Due.same("no place either", x.shift(0, 9, 1, 0, 1), from == to ? NO_PLACE : OTHER);
                Due.same("none", x.shift(0, 0, 1, 0, 0), from == to ? 0 : OTHER);
            }
        }
    }

    /** "taken for a TURN of KIND k (0 .. 7), or under it: its KIND". */
    private static void takenForAKind() {
        String[] above = {"0", "10", "20", "320", "410", "5320", "60", "7410"};
        for (int kind = 0; kind < 8; kind++) {
            HoopWaist x = new HoopWaist();
            x.body(kind);
            x.keep(3, 0);
            for (int k = 0; k < 8; k++) {
                Due.same(kind + " for " + k, x.taken(3, k), above[kind].indexOf('0' + k) >= 0 ? kind : OTHER);
            }
            Due.same("for 8", x.taken(3, 8), Bench.BAD);
            Due.same("for -1", x.taken(3, -1), Bench.BAD);
            Due.same("it holds it still", x.taken(3, kind), kind);
        }
    }

    /** "it ends where the row is missing": those ahead came, none. */
    private static void hoopsWhereTheRowIsMissing() {
        HoopWaist x = new HoopWaist();
        Due.same("nothing at first", x.hoops(0, 0, 5), 0);
        Bench.lay(x, 0, 1, 1, 1);
        x.keep(0, -1);
        Due.same("no row any more", x.hoops(0, 0, 5), 0);
        Due.same("none came", x.count(0), 0);
        Due.same("n of 0 is BAD, missing or not", x.hoops(0, 0, 0), Bench.BAD);
        Due.same("n of 6, too", x.hoops(0, 0, 6), Bench.BAD);
    }

    /** "ends (within a three, too)": by lengths 0 to 8, and from places on. */
    private static void hoopsWhereTheRowEnds() {
        for (int length = 0; length <= 8; length++) {
            HoopWaist x = new HoopWaist();
            int[] row = new int[length];
            java.util.Arrays.fill(row, 5);
            Bench.lay(x, 4, row);
            Due.same("of " + length, x.hoops(4, 0, 5), length / 3);
            Due.same("came", x.count(0), length / 3);
        }
        int[] from = {0, 1, 3, 4, 5, 6, 57, 58, 60, Integer.MAX_VALUE, -1, Integer.MIN_VALUE};
        int[] came = {2, 1, 1, 0, 0, 0, 0, 0, 0, 0, 0, 0};
        for (int i = 0; i < from.length; i++) {
            HoopWaist x = new HoopWaist();
            Bench.lay(x, 4, 5, 5, 5, 5, 5, 5);
            Due.same("from " + from[i], x.hoops(4, from[i], 5), came[i]);
        }
        HoopWaist y = new HoopWaist();
        int[] sixty = new int[60];
        java.util.Arrays.fill(sixty, 6);
        Bench.lay(y, 4, sixty);
        Due.same("the last three of sixty", y.hoops(4, 57, 5), 1);
        Due.same("n of them, no more", y.hoops(4, 0, 2), 2);
        Due.same("three came", y.count(0), 3);
    }

    /** "one is not so": SIZE, HEAVY below 1 or above 9, PACE below -9 or above 9; "those ahead came". */
    private static void hoopsWhereOneIsNotSo() {
        int[][] unlike = {{0, 5, 5}, {10, 5, 5}, {-1, 5, 5}, {5, 0, 5}, {5, 10, 5}, {5, -128, 5}, {5, 5, 10}, {5, 5, -10}, {127, 127, 127}};
        for (int[] u : unlike) {
            HoopWaist x = new HoopWaist();
            Bench.lay(x, 0, 1, 9, -9, 9, 1, 9, u[0], u[1], u[2], 5, 5, 5);
            Due.same("two came", x.hoops(0, 0, 4), 2);
            Due.same("they are there", x.count(0), 2);
            Due.same("the first", x.of(0, 0) * 100 + x.of(0, 1) * 10 + x.of(0, 2), 181);
            Due.same("the second", x.of(1, 0) * 100 + x.of(1, 1) * 10 + x.of(1, 2), 919);
            Due.same("it is the first now", x.hoops(0, 6, 2), 0);
            Due.same("those behind it", x.hoops(0, 9, 2), 1);
        }
    }

    /** "or HOOPS are FULL: those ahead came". */
    private static void hoopsUntilFull() {
        for (int there = 0; there <= 5; there++) {
            HoopWaist x = new HoopWaist();
            for (int i = 0; i < there; i++) {
                x.hoop(99);
            }
            Bench.lay(x, 0, 1, 1, 1, 2, 2, 2, 3, 3, 3, 4, 4, 4, 5, 5, 5, 6, 6, 6);
            Due.same("there were " + there, x.hoops(0, 0, 5), 5 - there);
            Due.same("five", x.count(0), 5);
            Due.same("full", x.hoops(0, 0, 1), 0);
            Due.same("the last", x.of(4, 0), there == 5 ? 9 : 5 - there);
        }
    }

    /** "-12 (no ROW of bytes; a SHELF that holds nothing is missing)". */
    private static void hoopsOfAnotherKind() {
        HoopWaist x = new HoopWaist();
        x.body(0);
        for (int sort = 1; sort <= 4; sort++) {
            x.row(0, sort, 3);
            for (int i = 0; i < 3; i++) {
                x.put(0, i, 1);
            }
            Due.same("sort " + sort, x.hoops(0, 0, 1), OTHER);
            Due.same("sort " + sort + ", behind its end", x.hoops(0, 9, 1), OTHER);
            Due.same("sort " + sort + ", n of 0", x.hoops(0, 0, 0), Bench.BAD);
        }
        x.keep(0, 0);
        Due.same("a turn", x.hoops(0, 0, 1), OTHER);
        Due.same("none came", x.count(0), 0);
    }

    /** "How many: 0 HOOPS, 1 that do not lie, 2 bytes on THE TAPE, 3 ..., 4 BODIES, 5 ... BAD." */
    private static void howMany() {
        HoopWaist x = Bench.calm(99, 99);
        for (int what = 0; what <= 5; what++) {
            Due.same("at first " + what, new HoopWaist().count(what), 0);
        }
        Bench.sink(x, 0);
        x.feed('n');
        x.feed('+');
        x.body(0);
        x.act(0, 1, 1);
        int[] want = {2, 1, 2, 2, 1, 2};
        for (int what = 0; what <= 5; what++) {
            Due.same("count(" + what + ")", x.count(what), want[what]);
        }
        Due.same("count(-1)", x.count(-1), Bench.BAD);
        Due.same("count(6)", x.count(6), Bench.BAD);
    }
}
