/** Terms 2 and promises 11 to 19: each sentence that names a bound has a method of its own, by hand. */
public final class ThoughtBoundsTest {
    public static void main(String[] args) {
        behindTicks();
        fallsNow();
        fallsWithinTwoHundred();
        lastsTwoHundredAtMost();
        lastsLeavesOutThoseThatLieNow();
        beatForOfAll();
        beatForTwoHundredIsMoreThanOneLess();
        beatForOfLikeOnesTheFirst();
        leastPush();
        mistakeFromNow();
        mistakeFortieth();
        mistakeLeavesTheOthersAsTheyAre();
        caughtNever();
        caughtWithinTwoHundred();
        heldOfLikeOnesTheLeastBits();
        heldAlone();
        heldNone();
        rescueFirstTick();
        rescueBehindItsOwnPush();
        rescueLastTick();
        rescueState();
        rescueNever();
        rescueByOneTick();
        rescueFromAnyPlace();
        startOfLikeOnesTheFirst();
        startNotIsLaterThanAll();
        startState();
        Due.end();
    }

    /** A hoop that holds by any pace but 0, and has none: it sinks within ten ticks, unless a push helps. */
    private static HoopWaist sinking(String law) {
        HoopWaist x = Bench.calm(99);
        x.mend(0, 2, 0);
        Bench.tell(x, law);
        return x;
    }

    /** A pace of 8 that each push, all 24 ticks, makes 1 less: at PHASE and 168 it is 0, ten ticks later it lies. */
    private static HoopWaist fading(int phase, String law) {
        HoopWaist x = Bench.calm(99);
        x.mend(0, 2, 8);
        x.mend(0, 4, 24);
        x.mend(0, 5, phase);
        Bench.tell(x, law);
        return x;
    }

    /** "behind k TICKS (0 .. 200) PLACE, PACE, HIGH of a HOOP". */
    private static void behindTicks() {
        HoopWaist x = Bench.calm(99);
        x.mend(0, 2, 5);
        x.go(3);
        int[] now = {15, 5, 20};
        int[] last = {(15 + 1000) % 24, 5, 20};
        for (int what = 0; what <= 2; what++) {
            Due.same("behind 0", x.then(0, 0, what), now[what]);
            Due.same("behind 200", x.then(0, 200, what), last[what]);
            Due.same("behind 201", x.then(0, 201, what), Bench.VOID);
            Due.same("behind -1", x.then(0, -1, what), Bench.VOID);
        }
        Due.same("NOW is as it was", x.of(0, 15), 3);
    }

    /** "FALLS: the first TICK (as how many from NOW) behind which it lies (0: now)". */
    private static void fallsNow() {
        HoopWaist x = sinking("0");
        Due.same("ten ticks", x.falls(0), 10);
        x.go(9);
        Due.same("the next tick", x.falls(0), 1);
        x.go(1);
        Due.same("now", x.falls(0), 0);
        x.go(1);
        Due.same("it lies on", x.falls(0), 0);
    }

    /** "NOT: not within 200." */
    private static void fallsWithinTwoHundred() {
        Due.same("199", fading(21, "0-1").falls(0), 199);
        Due.same("200", fading(22, "0-1").falls(0), 200);
        Due.same("201", fading(23, "0-1").falls(0), Bench.NOT);
        HoopWaist x = fading(23, "0-1");
        x.go(1);
        Due.same("200 from the next tick on", x.falls(0), 200);
        Due.same("never", Bench.calm(99).falls(0), Bench.NOT);
    }

    /** "LASTS: behind how many TICKS (200 at most) none lies yet". */
    private static void lastsTwoHundredAtMost() {
        Due.same("no hoops", new HoopWaist().lasts(), 200);
        Due.same("never", Bench.calm(99).lasts(), 200);
        Due.same("it falls by the 200th", fading(22, "0-1").lasts(), 199);
        Due.same("it falls by the 201st", fading(23, "0-1").lasts(), 200);
        HoopWaist x = sinking("0");
        Due.same("it falls by the tenth", x.lasts(), 9);
        x.go(9);
        Due.same("it falls by the next", x.lasts(), 0);
        x.hoop(99);
        Due.same("the first that falls counts", x.lasts(), 0);
    }

    /** "none lies yet that does not now". */
    private static void lastsLeavesOutThoseThatLieNow() {
        HoopWaist x = sinking("0");
        x.go(10);
        Due.same("all lie now", x.lasts(), 200);
        x.hoop(99);
        Due.same("the other holds", x.lasts(), 200);
        x.mend(1, 2, 0);
        Due.same("the other sinks", x.lasts(), 9);
    }

    /** "of all BEATS (2 .. 24), then PHASES": the last of all is tried, and the first. */
    private static void beatForOfAll() {
        HoopWaist x = Bench.calm(99);
        Bench.tell(x, "0-9");
        Due.same("the latest first push", x.beatFor(0), 2423);
        Due.same("LASTS by it", x.beatFor(1), 32);
        HoopWaist later = Bench.calm(99);
        later.go(5);
        Bench.tell(later, "0-9");
        Due.same("the latest first push from 5 on, at 28", later.beatFor(0), 2404);
        Due.same("LASTS by it", later.beatFor(1), 32);
        HoopWaist y = sinking("y=20?9");
        Due.same("a push at once", y.beatFor(0), 200);
        Due.same("LASTS by it", y.beatFor(1), 200);
        Due.same("BEAT and PHASE are as they were", y.of(0, 11) * 100 + y.of(0, 12), 600);
    }

    /** "that by which LASTS is greatest": 200 behind 199, by another PHASE and by another BEAT. */
    private static void beatForTwoHundredIsMoreThanOneLess() {
        HoopWaist phases = Bench.calm(99);
        phases.mend(0, 2, 8);
        Bench.tell(phases, "0-1");
        Due.same("2422 stops it at 190", phases.beatFor(0), 2423);
        Due.same("LASTS by it", phases.beatFor(1), 200);
        phases.mend(0, 4, 24);
        phases.mend(0, 5, 22);
        Due.same("LASTS by 2422", phases.lasts(), 199);
        HoopWaist beats = Bench.calm(98);
        beats.mend(0, 2, 5);
        Bench.tell(beats, "n>6?-1");
        Due.same("another BEAT", beats.beatFor(0), 1100);
        Due.same("LASTS by it", beats.beatFor(1), 200);
        beats.mend(0, 4, 10);
        Due.same("LASTS by 1000", beats.lasts(), 199);
        for (int phase = 1; phase < 10; phase++) {
            beats.mend(0, 5, phase);
            Due.holds("LASTS by BEAT 10, PHASE " + phase, beats.lasts() < 200);
        }
    }

    /** "that by which LASTS is greatest (of like ones the first)". */
    private static void beatForOfLikeOnesTheFirst() {
        HoopWaist none = new HoopWaist();
        Due.same("no hoops", none.beatFor(0), 200);
        HoopWaist doomed = sinking("0");
        Due.same("none helps", doomed.beatFor(0), 200);
        Due.same("LASTS by it", doomed.beatFor(1), 9);
        Due.same("one that holds by all", Bench.calm(99).beatFor(0), 200);
        HoopWaist atOne = sinking("y=18?9");
        Due.same("a push at tick 1", atOne.beatFor(0), 201);
        Due.same("LASTS by it", atOne.beatFor(1), 200);
        HoopWaist foreAtTwo = sinking("y=16&n=0?9");
        Due.same("a push fore at tick 2", foreAtTwo.beatFor(0), 302);
        Due.same("LASTS by it", foreAtTwo.beatFor(1), 200);
        HoopWaist backAtTwo = sinking("y=16&n=12?9");
        Due.same("a push back at tick 2", backAtTwo.beatFor(0), 200);
        Due.same("LASTS by it", backAtTwo.beatFor(1), 200);
        HoopWaist lying = sinking("0");
        lying.go(10);
        Due.same("one that lies now", lying.beatFor(0), 200);
        Due.same("LASTS by it", lying.beatFor(1), 200);
    }

    /** "LEAST PUSH: the least STRENGTH (0 .. 5) by which LASTS is told or more; NOT." */
    private static void leastPush() {
        for (int strength = 0; strength <= 5; strength++) {
            HoopWaist x = sinking("f=" + strength + "?9");
            Due.same("only by " + strength, x.leastPush(200), strength);
            Due.same("LASTS of 9 by any", x.leastPush(9), 0);
            Due.same("LASTS of 10", x.leastPush(10), strength);
            Due.same("STRENGTH is as it was", x.of(0, 13), 2);
        }
        HoopWaist more = sinking("f>2?9");
        Due.same("of several the least", more.leastPush(200), 3);
        HoopWaist none = sinking("f>5?9");
        Due.same("none for 10", none.leastPush(10), Bench.NOT);
        Due.same("none for 200", none.leastPush(200), Bench.NOT);
        Due.same("0 for 9", none.leastPush(9), 0);
        Due.same("no hoops", new HoopWaist().leastPush(200), 0);
    }

    /** "MISTAKE: the m-th PUSH from now (0 on) is left out". */
    private static void mistakeFromNow() {
        HoopWaist x = sinking("9");
        x.mend(0, 4, 12);
        Due.same("the one at NOW is number 0", x.mistake(0, 0), 9);
        Due.same("it is not caught", x.mistake(0, 1), Bench.NOT);
        Due.same("the next is number 1", x.mistake(1, 0), 200);
        HoopWaist y = sinking("9");
        y.mend(0, 4, 9);
        y.mend(0, 5, 8);
        y.go(8);
        Due.same("from NOW on, not from 0", y.mistake(0, 0), 1);
        Due.same("the next comes too late", y.mistake(1, 0), 200);
        y.mend(0, 5, 7);
        Due.same("one that is over is none", y.mistake(0, 0), 1);
        Due.same("no push in deed", y.led(0), 0);
    }

    /** "MISTAKE (m 0 .. 40)": the pace needs each push, all two ticks; the one left out costs 2 of HIGH, caught two later. */
    private static void mistakeFortieth() {
        HoopWaist x = Bench.calm(12);
        x.mend(0, 3, 3);
        x.mend(0, 2, 9);
        x.mend(0, 4, 2);
        Bench.tell(x, "9");
        Due.same("number 0, the pace is 9 without it", x.mistake(0, 1), 0);
        x.mend(0, 2, 6);
        for (int m = 0; m <= 40; m++) {
            Due.same("number " + m, x.mistake(m, 1), 2 * m + 4);
            Due.same("number " + m + ", LASTS", x.mistake(m, 0), 200);
        }
        Due.same("number 41", x.mistake(41, 1), Bench.BAD);
        Due.same("number -1", x.mistake(-1, 1), Bench.BAD);
        x.mend(0, 4, 24);
        Due.same("one that comes behind 200 ticks", x.mistake(9, 0), x.lasts());
    }

    /** "fore and back in turn": the push behind the one left out goes where it would have gone. */
    private static void mistakeLeavesTheOthersAsTheyAre() {
        HoopWaist x = sinking("n=12?9");
        Due.same("fore does nothing, back at 6 holds it", x.mistake(0, 0), 200);
        Due.same("without the one back", x.mistake(1, 0), 9);
        HoopWaist y = sinking("n=0?9");
        Due.same("without the one fore", y.mistake(0, 0), 9);
    }

    /** "CAUGHT: ... (0, if they never were below within 200 ...)". */
    private static void caughtNever() {
        Due.same("no hoops", new HoopWaist().mistake(0, 1), 0);
        Due.same("one that holds", Bench.calm(99).mistake(0, 1), 0);
        HoopWaist x = fading(8, "0-1");
        x.mend(0, 2, 9);
        Due.same("below behind 201 for the first time", x.mistake(40, 1), 0);
        x.go(1);
        Due.same("below behind 200 for the first time", x.mistake(40, 1), Bench.NOT);
        HoopWaist y = sinking("9");
        Due.same("below by the mistake, at 20 again behind 18", y.mistake(0, 1), 18);
        Due.same("never without that mistake", y.mistake(1, 1), 0);
        y.go(1);
        Due.same("a push at once: never below", y.mistake(0, 1), 0);
    }

    /** "CAUGHT: behind how many TICKS, HIGH having been below 20, all are at 20 again ... within 200; NOT". */
    private static void caughtWithinTwoHundred() {
        HoopWaist x = new HoopWaist();
        x.mend(0, 3, 0);
        x.mend(0, 4, 7);
        x.mend(0, 5, 5);
        x.hoop(12);
        x.mend(0, 2, 6);
        Bench.tell(x, "y<20?9;n=12?-1");
        Due.same("at 20 again behind 201", x.mistake(13, 1), Bench.NOT);
        x.go(1);
        Due.same("at 20 again behind 200", x.mistake(13, 1), 200);
        HoopWaist y = sinking("9");
        y.mend(0, 5, 1);
        y.go(1);
        Due.same("below NOW, at 20 again behind 2", y.mistake(1, 1), 2);
        y.hoop(99);
        Due.same("all, not one of them", y.mistake(0, 1), 20);
        Bench.tell(y, "0");
        Due.same("one never comes back to 20", y.mistake(0, 1), Bench.NOT);
    }

    /** "that with most by which LASTS is told or more (of like ones the least bits)". */
    private static void heldOfLikeOnesTheLeastBits() {
        HoopWaist x = Bench.calm(99, 99);
        Due.same("together they cross until they lie", x.lasts(), 12);
        Due.same("of two the first", x.held(200), 1);
        Due.same("both for 12", x.held(12), 3);
        Due.same("not both for 13", x.held(13), 1);
        x.mend(0, 2, 0);
        Due.same("the second alone", x.held(200), 2);
        HoopWaist y = Bench.calm(99, 99, 99, 99, 99);
        for (int i = 0; i < 5; i++) {
            y.mend(i, 2, i == 4 ? 3 : i < 2 ? 0 : 9);
        }
        Due.same("all five for 9", y.held(9), 31);
    }

    /** "sets of HOOPS that do not lie (bits; alone, the others lying)". */
    private static void heldAlone() {
        HoopWaist x = Bench.calm(99, 99, 99);
        x.mend(1, 2, -5);
        x.mend(2, 2, 0);
        x.go(10);
        Due.same("the third lies", x.of(2, 4), 0);
        int up = x.held(1);
        Due.same("one that lies is in no set", up, 3);
        HoopWaist y = Bench.calm(99);
        y.go(1);
        y.hoop(99);
        y.mend(1, 2, 0);
        y.mend(0, 2, 1);
        y.go(1);
        Due.same("the first is held, the other lying: it crosses nothing", y.held(200), 1);
        Due.same("nothing lies in deed", y.count(1), 2);
    }

    /** "NOT: none." */
    private static void heldNone() {
        Due.same("no hoops", new HoopWaist().held(1), Bench.NOT);
        HoopWaist x = sinking("0");
        Due.same("9", x.held(9), 1);
        Due.same("10", x.held(10), Bench.NOT);
        x.go(9);
        Due.same("it falls by the next", x.held(1), Bench.NOT);
        x.go(1);
        Due.same("it lies", x.held(1), Bench.NOT);
        Due.same("200 of 200", Bench.calm(99).held(200), 1);
        Due.same("199 by 199", fading(22, "0-1").held(199), 1);
        Due.same("not 200 by 199", fading(22, "0-1").held(200), Bench.NOT);
    }

    /** "the first TICK (0 .. 99 from NOW)": 0 is tried, at any PLACE 0 .. 23 and STRENGTH 1 .. 5. */
    private static void rescueFirstTick() {
        for (int place = 0; place < 24; place++) {
            int far = Math.min(place, 24 - place);
            HoopWaist x = sinking("f>2&n=" + far + "?9");
            Due.same("toward " + place, x.rescue(0, 300 + place), 0);
            Due.same("no such strength", x.rescue(0, 200 + place), Bench.NOT);
        }
        for (int strength = 1; strength <= 5; strength++) {
            HoopWaist x = sinking("f=" + strength + "&y<20?9");
            x.mend(0, 6, 0);
            Due.same("by " + strength, x.rescue(0, 100 * strength), 1);
            Due.same("of no strength in deed", x.of(0, 13), 0);
        }
        HoopWaist y = sinking("f=5&y=2?1");
        Due.same("the last tick ahead of the fall", y.rescue(0, 500), 9);
        y.go(9);
        Due.same("that is 0 now", y.rescue(0, 500), 0);
    }

    /** "at one TICK (behind its own PUSH ...)": its own push makes the pace 1, so that the other one finds a 1. */
    private static void rescueBehindItsOwnPush() {
        HoopWaist x = sinking("f=2?v=0;f=5&v=1?8;0-v");
        x.mend(0, 4, 24);
        x.mend(0, 3, 1);
        x.mend(0, 1, 1);
        Due.same("it falls without", x.falls(0), 10);
        Due.same("at the tick of its own push", x.rescue(0, 500), 0);
    }

    /** "the first TICK (0 .. 99 from NOW)": 99 is the last. */
    private static void rescueLastTick() {
        String law = "f=5&v<4?9;f=2?-1";
        HoopWaist x = fading(3, law);
        Due.same("it falls", x.falls(0), 181);
        Due.same("by tick 99", x.rescue(0, 500), 99);
        HoopWaist y = fading(4, law);
        Due.same("it falls, too", y.falls(0), 182);
        Due.same("by tick 100", y.rescue(0, 500), Bench.NOT);
        y.go(1);
        Due.same("100 is 99 now", y.rescue(0, 500), 99);
    }

    /** "STATE: it lies, or never falls". */
    private static void rescueState() {
        HoopWaist x = sinking("0");
        x.go(10);
        Due.same("it lies", x.rescue(0, 500), Bench.STATE);
        Due.same("never", Bench.calm(99).rescue(0, 500), Bench.STATE);
        Due.same("not within 200", fading(23, "0-1").rescue(0, 500), Bench.STATE);
        Due.same("within 200", fading(22, "0-1").rescue(0, 500), Bench.NOT);
    }

    /** "by which a HOOP's FALLS is later (or NOT) than without; NOT." */
    private static void rescueNever() {
        Due.same("none does it", sinking("0").rescue(0, 500), Bench.NOT);
        HoopWaist same = sinking("f=5?0");
        Due.same("as late as without is not later", same.rescue(0, 523), Bench.NOT);
        HoopWaist later = fading(0, "f=5?1;f=2?-1");
        Due.same("later, and it falls", later.falls(0), 178);
        Due.same("at once", later.rescue(0, 500), 0);
        HoopWaist never = sinking("f=5?1");
        Due.same("or NOT", never.rescue(0, 500), 0);
        HoopWaist worse = Bench.calm(99);
        worse.mend(0, 2, 8);
        worse.mend(0, 4, 24);
        Bench.tell(worse, "f=5?-1;f=2?-2");
        Due.same("sooner is not later", worse.rescue(0, 500), Bench.NOT);
    }

    /** "FALLS is later": by 1 is enough. The push gives 2, of which RUB leaves 1 for one tick, at which HIGH stays 20. */
    private static void rescueByOneTick() {
        HoopWaist x = Bench.calm(91);
        x.mend(0, 3, 1);
        x.mend(0, 2, 0);
        Bench.tell(x, "f=5&y=20?2");
        Due.same("without", x.falls(0), 10);
        Due.same("11 with it, at 0", x.rescue(0, 500), 0);
        Bench.tell(x, "f=5&y=20?1");
        Due.same("what RUB takes at once helps not", x.rescue(0, 500), Bench.NOT);
        Bench.tell(x, "f=5&y=2?2");
        Due.same("the last tick ahead of the fall", x.rescue(0, 500), 9);
    }

    /** "toward a told PLACE": 0 .. 23, from where the HOOP is. */
    private static void rescueFromAnyPlace() {
        int[] places = {1, 5, 11, 12, 13, 18, 23};
        for (int place : places) {
            for (int goal = 0; goal < 24; goal++) {
                int away = Math.abs(place - goal);
                int far = Math.min(away, 24 - away);
                HoopWaist x = Bench.calm(99);
                x.mend(0, 2, 1);
                x.go(place);
                x.mend(0, 2, 0);
                Bench.tell(x, "f=5&n=" + far + "?9");
                Due.same("from " + place + " toward " + goal, x.rescue(0, 500 + goal), 0);
                Bench.tell(x, "f=5&!(n=" + far + ")?9");
                Due.same("no other way, from " + place + " toward " + goal, x.rescue(0, 500 + goal), Bench.NOT);
            }
        }
    }

    /** "START: ... (... of like ones the first from -9 on)". */
    private static void startOfLikeOnesTheFirst() {
        Due.same("all but 0 hold", Bench.calm(99).start(0), -9);
        Due.same("5 or more hold", Bench.calm(19).start(0), -9);
        HoopWaist x = Bench.calm(99);
        Bench.tell(x, "v=9?-9");
        Due.same("9 is stopped", x.start(0), -8);
        Bench.tell(x, "!(v=3)?-9");
        Due.same("3 alone holds", x.start(0), -3);
        Due.same("the pace is as it was", x.of(0, 2), 4);
        HoopWaist y = Bench.calm(99);
        y.go(1);
        y.mend(0, 4, 24);
        y.mend(0, 5, 2);
        Bench.tell(y, "n=9?0;-9");
        Due.same("from 4 to 9", y.start(0), 5);
        Bench.tell(y, "0-9");
        Due.same("all fall at a time, but 0 falls sooner", y.start(0), -9);
        HoopWaist z = Bench.calm(19);
        Bench.tell(z, "v=0?9;-9");
        Due.same("0 alone holds at first", z.start(0), 0);
        HoopWaist w = Bench.calm(99);
        w.mend(0, 2, 3);
        w.go(1);
        w.mend(0, 4, 24);
        w.mend(0, 5, 2);
        Bench.tell(w, "n=12?0;-9");
        Due.same("from 3 to 12, by 9", w.start(0), 9);
    }

    /** "(NOT later than all ...)": a pace that never falls is better than one that falls late. */
    private static void startNotIsLaterThanAll() {
        HoopWaist x = fading(22, "v=2?0;-1");
        Due.same("2 stays, and what comes down to it", x.start(0), -9);
        HoopWaist z = fading(22, "v=8?-8;v>0?-1");
        z.mend(0, 2, 9);
        Due.same("9 falls", z.falls(0), 56);
        z.mend(0, 2, 7);
        Due.same("7 falls", z.falls(0), 176);
        Due.same("7 falls latest", z.start(0), -7);
        Bench.tell(z, "v=8?-8;v=1?0;v>0?-1");
        Due.same("1 never falls, nor what comes down to it", z.start(0), -7);
        Bench.tell(z, "v=1?0;v>1?-9");
        Due.same("1 alone never falls", z.start(0), -1);
        HoopWaist y = fading(22, "v=8?0;v=9?-2;-1");
        y.mend(0, 2, -9);
        Due.same("9 falls just within 200", y.falls(0), 200);
        Due.same("8 never falls, which is later than 200", y.start(0), -8);
    }

    /** "STATE: it lies." */
    private static void startState() {
        HoopWaist x = sinking("0");
        x.go(9);
        Due.same("it does not lie yet", x.start(0), -9);
        x.go(1);
        Due.same("it lies", x.start(0), Bench.STATE);
        Due.same("no such hoop", x.start(1), Bench.VOID);
    }
}
