/** Terms 1, the ring, pushes and a tick: each sentence that names a bound has a method of its own, by hand. */
public final class RingBoundsTest {
    public static void main(String[] args) {
        placesGoRound();
        fiveHoops();
        atFirst();
        highIsTwentyAtMost();
        highIsZeroAtLeast();
        paceIsNeedOrMore();
        needIsCut();
        atZeroItLies();
        takenUpAsAtFirst();
        pushesByBeatAndPhase();
        phaseIsWhatIsLeft();
        foreAndBackInTurn();
        oneThatLiesIsNotPushed();
        paceIsNineAtMost();
        paceIsZeroAtLeast();
        itsSignStays();
        ofZeroItIsPlus();
        rubAsHeavyGoes();
        rubIsZeroAtLeast();
        crossedIsZeroAtLeast();
        crossedPairByPair();
        crossedOnlyUpright();
        crossedWhereTheyCome();
        theOrderOfATick();
        Due.end();
    }

    /** "PLACES 0 .. 23"; "PLACE by PACE (by 24 what is left)". */
    private static void placesGoRound() {
        HoopWaist x = Bench.calm(99);
        x.mend(0, 2, 1);
        x.go(23);
        Due.same("the last place", x.of(0, 3), 23);
        x.go(1);
        Due.same("behind the last comes the first", x.of(0, 3), 0);
        x.mend(0, 2, -1);
        x.go(1);
        Due.same("ahead of the first is the last", x.of(0, 3), 23);
        x.go(23);
        Due.same("all the way back", x.of(0, 3), 0);
        x.mend(0, 2, 8);
        Due.same("24 leaves 0", x.then(0, 3, 0), 0);
        x.mend(0, 2, 9);
        Due.same("27 leaves 3", x.then(0, 3, 0), 3);
        x.mend(0, 2, -9);
        Due.same("9 backward", x.then(0, 1, 0), 15);
        Due.same("27 backward", x.then(0, 3, 0), 21);
        Due.same("1800 backward", x.then(0, 200, 0), 0);
    }

    /** "HOOPS 0 .. 4, as they come". */
    private static void fiveHoops() {
        HoopWaist x = new HoopWaist();
        for (int i = 0; i < 5; i++) {
            Due.same("its number", x.hoop(11 * (i + 1)), i);
            Due.same("how many", x.count(0), i + 1);
        }
        Due.same("a sixth", x.hoop(11), Bench.FULL);
        Due.same("still five", x.count(0), 5);
        for (int i = 0; i < 5; i++) {
            Due.same("as they came", x.of(i, 0), i + 1);
        }
    }

    /** "PLACE (0 at first), PACE (4 at first), HIGH (20 at first)", whenever a hoop comes. */
    private static void atFirst() {
        HoopWaist x = new HoopWaist();
        for (int i = 0; i < 5; i++) {
            x.hoop(19);
            Due.holds("at first, tick " + x.of(0, 15), Bench.way(x, i).equals("4 0 20"));
            x.go(7);
        }
        Due.same("NOW behind five times seven", x.of(0, 15), 35);
    }

    /** "1 more (20 at most)". */
    private static void highIsTwentyAtMost() {
        HoopWaist x = Bench.calm(99);
        Due.same("20 stays", x.then(0, 1, 2), 20);
        Due.same("20 stays for long", x.then(0, 200, 2), 20);
        x.mend(0, 2, 0);
        x.go(1);
        x.mend(0, 2, 1);
        Due.same("18", x.of(0, 4), 18);
        Due.same("1 more", x.then(0, 1, 2), 19);
        Due.same("2 more", x.then(0, 2, 2), 20);
        Due.same("no more", x.then(0, 3, 2), 20);
    }

    /** "else 2 less (0 at least)": from 1 it comes to 0, not below. */
    private static void highIsZeroAtLeast() {
        HoopWaist x = Bench.calm(99);
        x.mend(0, 2, 0);
        x.go(1);
        x.mend(0, 2, 1);
        x.go(1);
        x.mend(0, 2, 0);
        Due.same("19 less nine times 2, and it is up", x.go(9), 1);
        Due.same("1 is left", x.of(0, 4), 1);
        Due.same("falls by the next", x.falls(0), 1);
        Due.same("one less that is up", x.go(1), 0);
        Due.same("0 at least", x.of(0, 4), 0);
        x.go(5);
        Due.same("0 stays", x.of(0, 4), 0);
        Due.same("it can be taken up", x.lift(0), 0);
    }

    /** "if PACE is NEED or more", without its sign. */
    private static void paceIsNeedOrMore() {
        for (int size = 1; size <= 9; size++) {
            HoopWaist x = Bench.calm(10 * size + 9);
            int need = x.of(0, 5);
            for (int sign = -1; sign <= 1; sign += 2) {
                x.mend(0, 2, sign * need);
                Due.same("NEED holds, size " + size, x.then(0, 1, 2), 20);
                x.mend(0, 2, sign * (need - 1));
                Due.same("1 below NEED sinks, size " + size, x.then(0, 1, 2), 18);
            }
        }
    }

    /** "NEED: 10 less SIZE, by 2, cut, and 1". */
    private static void needIsCut() {
        HoopWaist x = new HoopWaist();
        x.hoop(11);
        x.hoop(21);
        x.hoop(81);
        x.hoop(91);
        int[] need = {5, 5, 2, 1};
        for (int i = 0; i < need.length; i++) {
            Due.same("NEED of size " + x.of(i, 0), x.of(i, 5), need[i]);
        }
    }

    /** "at 0 it lies: PACE 0"; it went on within that tick, and no further. */
    private static void atZeroItLies() {
        HoopWaist x = Bench.calm(19);
        x.go(9);
        Due.holds("2 is left", Bench.way(x, 0).equals("4 12 2"));
        Due.same("none is up", x.go(1), 0);
        Due.holds("it lies", Bench.way(x, 0).equals("0 16 0"));
        x.go(10);
        Due.holds("it lies on", Bench.way(x, 0).equals("0 16 0"));
        Due.same("in thought too", x.then(0, 200, 0), 16);
    }

    /** "A HOOP that lies is taken up: HIGH 20, PACE 4, PLACE 0": all else stays, and so does another one that lies. */
    private static void takenUpAsAtFirst() {
        HoopWaist x = Bench.calm(19, 38);
        x.mend(1, 2, 3);
        Due.same("both lie", x.go(10), 0);
        Due.holds("not at 0", x.of(0, 3) == 16 && x.of(1, 3) == 6);
        Due.same("its number", x.lift(1), 1);
        Due.holds("as at first", Bench.way(x, 1).equals("4 0 20"));
        Due.holds("the other lies", Bench.way(x, 0).equals("0 16 0"));
        Due.same("SIZE and HEAVY", x.of(1, 0) * 10 + x.of(1, 1), 38);
        Due.same("NOW", x.of(0, 15), 10);
        Due.same("it is up", x.lift(1), Bench.STATE);
        x.go(1);
        Due.same("it is up at 18, too", x.lift(1), Bench.STATE);
        Due.holds("and as it was", Bench.way(x, 1).equals("4 4 20"));
        Due.same("the other's number", x.lift(0), 0);
        Due.holds("as at first", Bench.way(x, 0).equals("4 0 20"));
    }

    /** "at each TICK t that leaves PHASE by BEAT": all of BEAT 2 .. 24, PHASE 0 .. BEAT - 1. */
    private static void pushesByBeatAndPhase() {
        for (int beat = 2; beat <= 24; beat++) {
            for (int phase = 0; phase < beat; phase++) {
                HoopWaist x = new HoopWaist();
                x.mend(0, 4, beat);
                x.mend(0, 5, phase);
                String at = "beat " + beat + " phase " + phase;
                if (phase > 0) {
                    x.go(phase);
                }
                Due.same("none ahead of PHASE, " + at, x.led(0), 0);
                x.go(1);
                Due.same("one at PHASE, " + at, x.led(0), 1);
                x.go(beat - 1);
                Due.same("none until BEAT is over, " + at, x.led(0), 1);
                x.go(1);
                Due.same("the next, " + at, x.led(0), 2);
                x.go(3 * beat);
                Due.same("three more, " + at, x.led(0), 5);
            }
        }
    }

    /** "(A PHASE of BEAT or more: what is left.)" */
    private static void phaseIsWhatIsLeft() {
        int[][] rows = {{23, 22, 1}, {23, 23, 0}, {22, 11, 0}, {23, 2, 1}, {5, 3, 2}, {3, 3, 0}, {4, 3, 1}};
        for (int[] r : rows) {
            HoopWaist x = new HoopWaist();
            x.mend(0, 4, 24);
            x.mend(0, 5, r[0]);
            x.mend(0, 4, r[1]);
            Due.same("PHASE as told", x.of(0, 12), r[0]);
            if (r[2] > 0) {
                x.go(r[2]);
            }
            Due.same("no push ahead of what is left", x.led(0), 0);
            x.go(1);
            Due.same("a push at what is left", x.led(0), 1);
            x.go(r[1]);
            Due.same("the next one BEAT later", x.led(0), 2);
        }
    }

    /** "the first one fore, the next one back, and so on". The law tells by 1 that it went fore, by 2 back. */
    private static void foreAndBackInTurn() {
        int[][] rows = {{6, 0}, {2, 0}, {2, 1}, {3, 2}, {24, 0}, {24, 23}, {5, 3}};
        for (int[] r : rows) {
            for (int t = 0; t < 80; t++) {
                HoopWaist x = new HoopWaist();
                x.mend(0, 3, 0);
                x.mend(0, 4, r[0]);
                x.mend(0, 5, r[1]);
                Bench.tell(x, "n=0?1;n=12?2;5");
                if (t > 0) {
                    x.go(t);
                }
                x.hoop(99);
                int nth = (t - r[1]) / r[0];
                boolean due = t >= r[1] && (t - r[1]) % r[0] == 0;
                Due.same("tick " + t + " of beat " + r[0], x.then(0, 1, 1), due ? 5 + nth % 2 : 4);
            }
        }
    }

    /** "each HOOP that does not lie". */
    private static void oneThatLiesIsNotPushed() {
        HoopWaist x = Bench.calm(99, 99);
        Bench.sink(x, 0);
        Bench.tell(x, "9");
        x.mend(0, 4, 2);
        int place = x.of(0, 3);
        x.go(2);
        Due.same("pace of the one that lies", x.of(0, 2), 0);
        Due.same("its place", x.of(0, 3), place);
        Due.same("it lies", x.of(0, 4), 0);
        Due.same("pace of the other", x.of(1, 2), 9);
    }

    /** "PACE by THE LAW (0 .. 9 ...)": 9 at most. */
    private static void paceIsNineAtMost() {
        HoopWaist x = Bench.calm(99);
        Bench.tell(x, "9");
        int[] paces = {-9, -1, 1, 9};
        for (int pace : paces) {
            x.mend(0, 2, pace);
            Due.same("9 more than " + pace, x.then(0, 1, 1), pace < 0 ? -9 : 9);
        }
        Bench.tell(x, "1");
        x.mend(0, 2, 8);
        Due.same("8 and 1", x.then(0, 1, 1), 9);
        x.mend(0, 2, -8);
        Due.same("-8 and 1", x.then(0, 1, 1), -9);
    }

    /** "PACE by THE LAW (0 .. 9 ...)": 0 at least. */
    private static void paceIsZeroAtLeast() {
        HoopWaist x = Bench.calm(99);
        Bench.tell(x, "0-3");
        int[] paces = {-4, -3, -2, 0, 2, 3, 4};
        int[] want = {-1, 0, 0, 0, 0, 0, 1};
        for (int i = 0; i < paces.length; i++) {
            x.mend(0, 2, paces[i]);
            Due.same("3 less than " + paces[i], x.then(0, 1, 1), want[i]);
        }
    }

    /** "its sign stays". */
    private static void itsSignStays() {
        HoopWaist x = Bench.calm(99);
        Bench.tell(x, "2");
        x.mend(0, 2, -1);
        Due.same("-1 and 2", x.then(0, 1, 1), -3);
        Due.same("it goes backward", x.then(0, 1, 0), 21);
        x.mend(0, 2, 1);
        Due.same("1 and 2", x.then(0, 1, 1), 3);
    }

    /** "of 0 it is +", also of a 0 that was below 0 before. */
    private static void ofZeroItIsPlus() {
        HoopWaist x = Bench.calm(99);
        x.mend(0, 2, 0);
        Bench.tell(x, "2");
        Due.same("0 and 2", x.then(0, 1, 1), 2);
        HoopWaist y = Bench.calm(99);
        y.mend(0, 4, 2);
        y.mend(0, 2, -3);
        Bench.tell(y, "v=3?-3;4");
        y.go(1);
        Due.same("-3 less 3", y.of(0, 2), 0);
        y.go(2);
        Due.same("then + again", y.of(0, 2), 4);
    }

    /** "RUB: as HEAVY goes into t and 1, PACE is less by RUB": at t = HEAVY - 1 for the first time. */
    private static void rubAsHeavyGoes() {
        for (int heavy = 1; heavy <= 9; heavy++) {
            HoopWaist x = Bench.calm(90 + heavy);
            x.mend(0, 2, 9);
            x.mend(0, 3, 1);
            if (heavy > 1) {
                Due.same("not yet, heavy " + heavy, x.then(0, heavy - 1, 1), 9);
            }
            Due.same("once, heavy " + heavy, x.then(0, heavy, 1), 8);
            Due.same("still once, heavy " + heavy, x.then(0, 2 * heavy - 1, 1), 8);
            Due.same("twice, heavy " + heavy, x.then(0, 2 * heavy, 1), 7);
            x.mend(0, 3, 0);
            Due.same("no RUB, heavy " + heavy, x.then(0, 200, 1), 9);
            x.mend(0, 3, 3);
            Due.same("RUB of 3, heavy " + heavy, x.then(0, heavy, 1), 6);
        }
    }

    /** "PACE is less by RUB (0 at least)". */
    private static void rubIsZeroAtLeast() {
        HoopWaist x = Bench.calm(91);
        x.mend(0, 3, 3);
        int[] paces = {-4, -3, -2, -1, 0, 1, 2, 3, 4};
        int[] want = {-1, 0, 0, 0, 0, 0, 0, 0, 1};
        for (int i = 0; i < paces.length; i++) {
            x.mend(0, 2, paces[i]);
            Due.same("RUB of 3 on " + paces[i], x.then(0, 1, 1), want[i]);
        }
    }

    /** "CROSSED: ... PACE of both 1 less (0 at least ...)". */
    private static void crossedIsZeroAtLeast() {
        HoopWaist x = Bench.calm(99, 99);
        x.mend(0, 2, 0);
        x.mend(1, 2, 0);
        x.go(1);
        Due.same("0 stays 0", x.of(0, 2), 0);
        Due.same("0 stays 0, the other", x.of(1, 2), 0);
        HoopWaist y = Bench.calm(99, 99);
        y.mend(0, 2, -3);
        y.mend(1, 2, -3);
        y.go(1);
        Due.same("-3 is 1 less without its sign", y.of(0, 2), -2);
        Due.same("the other", y.of(1, 2), -2);
    }

    /** "pair by pair": of m in one place each loses m - 1. */
    private static void crossedPairByPair() {
        for (int m = 1; m <= 5; m++) {
            int[] hoops = new int[m];
            java.util.Arrays.fill(hoops, 99);
            HoopWaist x = Bench.calm(hoops);
            for (int i = 0; i < m; i++) {
                x.mend(i, 2, 9);
            }
            x.go(1);
            for (int i = 0; i < m; i++) {
                Due.same("of " + m + " in one place", x.of(i, 2), 10 - m);
            }
        }
        HoopWaist y = Bench.calm(99, 99, 99);
        for (int i = 0; i < 3; i++) {
            y.mend(i, 2, 1);
        }
        y.go(1);
        Due.same("1 less two times is 0", y.of(0, 2) + y.of(1, 2) + y.of(2, 2), 0);
    }

    /** "each two that do not lie". */
    private static void crossedOnlyUpright() {
        HoopWaist x = Bench.calm(99, 99);
        x.mend(1, 2, 1);
        Bench.sink(x, 0);
        Due.same("one lies at 0", x.of(0, 3) * 100 + x.of(0, 4), 0);
        Due.same("the other is at 10", x.of(1, 3), 10);
        x.mend(1, 2, 7);
        x.go(2);
        Due.holds("both are at 0, the pace is as it was", Bench.way(x, 1).equals("7 0 20"));
        HoopWaist y = Bench.calm(99, 99, 99);
        y.mend(1, 2, 0);
        y.mend(2, 2, 8);
        Bench.sink(y, 0);
        Due.same("two lie at 0", y.of(0, 3) + y.of(1, 3) + y.count(1), 1);
        int pace = y.of(2, 2);
        y.go(24);
        Due.same("they cross the third no more", y.of(2, 2), pace);
    }

    /** "are in one PLACE": behind step 3, not ahead of it; by 24. */
    private static void crossedWhereTheyCome() {
        HoopWaist x = Bench.calm(99, 99);
        x.mend(0, 2, 5);
        x.mend(1, 2, -5);
        x.go(1);
        Due.same("they part", x.of(0, 2) * 100 + x.of(1, 2), 495);
        Due.same("at 5 and 19", x.of(0, 3) * 100 + x.of(1, 3), 519);
        x.mend(0, 2, 7);
        x.mend(1, 2, -7);
        x.go(1);
        Due.same("they meet at 12", x.of(0, 3) * 100 + x.of(1, 3), 1212);
        Due.same("both are 1 less", x.of(0, 2) * 100 + x.of(1, 2), 594);
        HoopWaist y = Bench.calm(99, 99);
        y.mend(0, 2, 8);
        y.mend(1, 2, 9);
        y.go(2);
        y.mend(1, 2, 6);
        y.go(1);
        Due.same("24 and 24 are both 0", y.of(0, 3) * 100 + y.of(1, 3), 0);
        Due.same("so that they cross", y.of(0, 2) * 100 + y.of(1, 2), 705);
    }

    /** "1 a PUSH ... 2 RUB ... 3 PLACE ... 4 CROSSED ... 5 HIGH". */
    private static void theOrderOfATick() {
        HoopWaist x = new HoopWaist();
        x.hoop(91);
        x.mend(0, 3, 3);
        x.mend(0, 2, 9);
        Bench.tell(x, "9");
        Due.same("RUB behind the PUSH: 9, then 6", x.then(0, 1, 1), 6);
        Due.same("PLACE behind RUB", x.then(0, 1, 0), 6);
        HoopWaist y = Bench.calm(59, 59);
        y.mend(0, 2, 3);
        y.mend(1, 2, 3);
        Due.same("PLACE ahead of CROSSED", y.then(0, 1, 0), 3);
        Due.same("HIGH behind CROSSED: 2 is below NEED", y.then(0, 1, 2), 18);
        HoopWaist z = Bench.calm(99, 99);
        z.mend(0, 2, 0);
        z.mend(1, 2, 0);
        z.go(9);
        z.mend(1, 2, 1);
        z.mend(0, 2, 1);
        Due.same("both cross once more in the tick in which they fall", z.then(0, 1, 2) + z.then(1, 1, 2), 0);
    }
}
