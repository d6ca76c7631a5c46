/** Terms 3, the field and learning, and promises 23 to 29: each sentence that names a bound has a method of its own. */
public final class FieldBoundsTest {
    private static final int[] SEEDS = {0, 1, -1, 5, 99, 123456789, Integer.MAX_VALUE, Integer.MIN_VALUE};

    public static void main(String[] args) {
        fiveRowsOfFive();
        skillFromZeroToTwelve();
        skillOrMore();
        belowKnock();
        knockFromZeroToTwelve();
        whoStillHasHers();
        theDrawsWrap();
        aKnockedOneKnocksNobody();
        northEastSouthWest();
        oneToThirtyMinutes();
        whoKnockedHers();
        theLastOfLikeOnes();
        theLastThirtyAtMost();
        aloneFromZeroToEight();
        aloneInLowestTerms();
        learningOneAtLeast();
        learningAtTwelveNoneCount();
        learningCountsFromWhenItBecame();
        oneToNinetyNineMinutes();
        tillZeroIfItIs();
        Due.end();
    }

    /** All girls of one skill, and KNOCK. */
    private static HoopWaist field(int skill, int knock) {
        HoopWaist x = new HoopWaist();
        for (int girl = 0; girl < 25; girl++) {
            x.skill(girl, skill);
        }
        x.mend(0, 7, knock);
        return x;
    }

    /** The i-th draw (1 on) by a seed. */
    private static int draw(int seed, int i) {
        int z = seed;
        for (int k = 0; k < i; k++) {
            z = z * 1103515245 + 12345;
        }
        return (z >>> 8) % 12;
    }

    /** "five rows of five GIRLS 0 .. 24": who is beside whom, at each corner, side and within. */
    private static void fiveRowsOfFive() {
        for (int girl = 0; girl < 25; girl++) {
            HoopWaist x = field(12, 12);
            x.skill(girl, 0);
            int beside = 0;
            for (int other = 0; other < 25; other++) {
                int rows = Math.abs(girl / 5 - other / 5);
                int columns = Math.abs(girl % 5 - other % 5);
                boolean near = rows + columns == 1;
                beside += near ? 1 : 0;
                Due.same(other + " beside " + girl, x.knocked(7, 1, other), near ? girl : Bench.NOT);
                Due.same(other + " is left", x.left(7, 1, other), near || other == girl ? 0 : 1);
            }
            Due.same("how many are left", x.left(7, 1, -1), 24 - beside);
        }
    }

    /** "SKILL (0 .. 12; 9 at first)": at 0 all drop at once, at 12 none ever. */
    private static void skillFromZeroToTwelve() {
        for (int seed : SEEDS) {
            Due.same("skill 0", field(0, 0).left(seed, 1, -1), 0);
            Due.same("skill 12", field(12, 12).left(seed, 30, -1), 25);
        }
        HoopWaist x = new HoopWaist();
        for (int girl = 0; girl < 25; girl++) {
            Due.same("9 at first", x.of(girl, 20), 9);
        }
        Due.same("-1", x.skill(0, -1), Bench.BAD);
        Due.same("13", x.skill(0, 13), Bench.BAD);
        Due.same("0", x.skill(0, 0), 9);
        Due.same("12", x.skill(0, 12), 0);
        Due.same("it was 12", x.skill(0, 9), 12);
    }

    /** "it drops, if (z >>> 8) % 12 is SKILL or more". */
    private static void skillOrMore() {
        for (int seed = -40; seed < 40; seed++) {
            int first = draw(seed, 1);
            HoopWaist x = field(12, 0);
            x.skill(0, first);
            Due.same("as much as SKILL: it drops", x.left(seed, 1, 0), 0);
            x.skill(0, first + 1);
            Due.same("less than SKILL: it stays", x.left(seed, 1, 0), 1);
        }
    }

    /** "it drops, too, if (z >>> 8) % 12 is below KNOCK". */
    private static void belowKnock() {
        for (int seed = -40; seed < 40; seed++) {
            int second = draw(seed, 2);
            HoopWaist x = field(12, second);
            x.skill(0, 0);
            Due.same("as much as KNOCK: the one east stays", x.left(seed, 1, 1), 1);
            x.mend(0, 7, second + 1);
            Due.same("below KNOCK: it drops", x.left(seed, 1, 1), 0);
            Due.same("who knocked", x.knocked(seed, 1, 1), 0);
        }
    }

    /** "KNOCK (0 .. 12; 1 at first)". */
    private static void knockFromZeroToTwelve() {
        Due.same("1 at first", new HoopWaist().of(0, 14), 1);
        for (int seed : SEEDS) {
            HoopWaist x = field(12, 0);
            x.skill(12, 0);
            Due.same("KNOCK 0 knocks none", x.left(seed, 30, -1), 24);
            x.mend(0, 7, 12);
            Due.same("KNOCK 12 knocks all beside", x.left(seed, 1, -1), 20);
        }
    }

    /** "GIRL by GIRL who still has hers": one that dropped draws no more, nor is she knocked again. */
    private static void whoStillHasHers() {
        for (int seed = 0; seed < 30; seed++) {
            HoopWaist x = field(12, 0);
            x.skill(0, 0);
            // In the first minute girl 0 drops by draw 1, two beside are drawn for by 2 and 3, then 24 girls draw.
            int second = draw(seed, 3 + 24 + 1);
            x.skill(1, 0);
            Due.same("both drop at once", x.left(seed, 1, -1), 23);
            x.skill(1, 12);
            int last = draw(seed, 3 + 24 + 24);
            x.skill(24, last);
            boolean sooner = draw(seed, 3 + 24) >= last;
            Due.same("girl 24 by the draw that is hers", x.left(seed, 2, 24), 0);
            Due.same("girl 24 behind one minute", x.left(seed, 1, 24), sooner ? 0 : 1);
            x.skill(24, 12);
            x.skill(1, second);
            Due.same("girl 1 by the first draw of the second minute", x.left(seed, 2, 1), 0);
            x.skill(1, second + 1);
            Due.same("girl 1 by 1 more", x.left(seed, 2, 1), draw(seed, 4) > second ? 0 : 1);
        }
        HoopWaist y = field(0, 12);
        Due.same("0 knocks 1", y.knocked(3, 1, 1), 0);
        Due.same("0 knocks 5", y.knocked(3, 1, 5), 0);
        Due.same("2 knocks 7, as 1 lies and 6 comes later", y.knocked(3, 1, 7), 2);
        Due.same("2 drops by herself", y.knocked(3, 1, 2), Bench.NOT);
        Due.same("4 drops by herself", y.knocked(3, 1, 4), Bench.NOT);
        Due.same("6 drops by herself", y.knocked(3, 1, 6), Bench.NOT);
        Due.same("none is left", y.left(3, 1, -1), 0);
    }

    /** "z = z * 1103515245 + 12345 (an int; SEED at first)", "(z >>> 8)": never below 0. */
    private static void theDrawsWrap() {
        for (int seed : SEEDS) {
            HoopWaist x = field(12, 0);
            for (int girl = 0; girl < 25; girl++) {
                int mine = draw(seed, girl + 1);
                x.skill(girl, mine);
                Due.same("girl " + girl + " drops by her own draw", x.left(seed, 1, girl), 0);
                x.skill(girl, mine + 1);
                Due.same("girl " + girl + " stays by 1 more", x.left(seed, 1, girl), 1);
            }
            Due.same("all stay", x.left(seed, 1, -1), 25);
        }
    }

    /** "(it knocks nobody)". */
    private static void aKnockedOneKnocksNobody() {
        HoopWaist x = field(12, 12);
        x.skill(0, 0);
        Due.same("1 is knocked, 2 is not", x.left(11, 30, 1) * 10 + x.left(11, 30, 2), 1);
        Due.same("three are down for good", x.left(11, 30, -1), 22);
    }

    /** "each GIRL beside (north, east, south, west)": in this order the draws come. */
    private static void northEastSouthWest() {
        int[] beside = {7, 13, 17, 11};
        for (int seed = 0; seed < 40; seed++) {
            for (int i = 0; i < 4; i++) {
                // Girls 0 to 11 draw first, then girl 12, then come those beside her.
                int mine = draw(seed, 13 + i + 1);
                HoopWaist x = field(12, mine);
                x.skill(12, 0);
                Due.same("not below KNOCK", x.left(seed, 1, beside[i]), 1);
                x.mend(0, 7, mine + 1);
                Due.same("below KNOCK", x.left(seed, 1, beside[i]), 0);
            }
        }
    }

    /** "In thought, n MINUTES (1 .. 30) by a SEED". */
    private static void oneToThirtyMinutes() {
        HoopWaist x = new HoopWaist();
        int[] bad = {Integer.MIN_VALUE, -1, 0, 31, Integer.MAX_VALUE};
        for (int n : bad) {
            Due.same("left, n " + n, x.left(5, n, -1), Bench.BAD);
            Due.same("knocked, n " + n, x.knocked(5, n, 3), Bench.BAD);
        }
        Due.holds("1 is fine", x.left(5, 1, -1) >= 0 && x.left(5, 30, -1) >= 0);
        int before = 25;
        for (int n = 1; n <= 30; n++) {
            int left = x.left(5, n, -1);
            Due.holds("none comes back", left <= before);
            before = left;
        }
        Due.same("in thought: again from the start", x.left(5, 1, -1), new HoopWaist().left(5, 1, -1));
    }

    /** "who knocked hers (NOT: nobody, or hers is up)". */
    private static void whoKnockedHers() {
        HoopWaist x = field(12, 12);
        x.skill(24, 0);
        Due.same("19 was knocked", x.knocked(1, 1, 19), 24);
        Due.same("23 was knocked", x.knocked(1, 1, 23), 24);
        Due.same("24 dropped, nobody knocked", x.knocked(1, 1, 24), Bench.NOT);
        Due.same("18 is up", x.knocked(1, 1, 18), Bench.NOT);
        Due.same("by 0, which is not NOT", field(0, 12).knocked(1, 1, 1), 0);
        Due.same("girl -1", x.knocked(1, 1, -1), Bench.BAD);
        Due.same("girl 25", x.knocked(1, 1, 25), Bench.BAD);
    }

    /** "THE LAST: who has hers longest (of like ones the least number)". */
    private static void theLastOfLikeOnes() {
        for (int seed : SEEDS) {
            Due.same("all to the end", field(12, 12).last(seed, 0), 0);
            Due.same("all at once", field(0, 0).last(seed, 0), 0);
            HoopWaist x = field(0, 0);
            x.skill(24, 12);
            Due.same("24 alone", x.last(seed, 0), 24);
            x.skill(7, 12);
            Due.same("7 and 24", x.last(seed, 0), 7);
            Due.same("they do not drop", x.last(seed, 1), 31);
        }
        for (int girl = 0; girl < 25; girl++) {
            HoopWaist x = field(0, 0);
            x.skill(girl, 12);
            Due.same("alone to the end", x.last(3, 0), girl);
            for (int other = girl + 1; other < 25; other++) {
                x.skill(other, 12);
                Due.same("of like ones the least", x.last(3, 0), girl);
            }
        }
    }

    /** "behind how many MINUTES (30 at most) it drops (31: not)". */
    private static void theLastThirtyAtMost() {
        for (int seed : SEEDS) {
            Due.same("at once", field(0, 0).last(seed, 1), 1);
            Due.same("not", field(12, 0).last(seed, 1), 31);
        }
        int thirty = 0;
        int later = 0;
        for (int seed = 0; seed < 4000 && (thirty < 3 || later < 3); seed++) {
            HoopWaist x = field(0, 0);
            x.skill(0, 11);
            // In the first minute 25 girls draw, and 24 of them drop: 19 have one up in the east, 19 in the south, and
            // girl 0 is drawn for twice; from draw 66 on she draws alone.
            int minute = 1;
            while (minute < 40 && draw(seed, minute == 1 ? 1 : 65 + minute - 1) < 11) {
                minute++;
            }
            if (minute == 30 || minute == 31) {
                Due.same("by her draws, minute " + minute, x.last(seed, 1), minute);
                Due.same("it is she", x.last(seed, 0), 0);
                Due.same("behind 30", x.left(seed, 30, 0), minute == 30 ? 0 : 1);
                Due.same("behind 29", x.left(seed, 29, 0), 1);
                thirty += minute == 30 ? 1 : 0;
                later += minute == 31 ? 1 : 0;
            }
        }
        Due.holds("both were seen", thirty > 0 && later > 0);
    }

    /** "behind y MINUTES (0 .. 8)". */
    private static void aloneFromZeroToEight() {
        HoopWaist x = new HoopWaist();
        for (int skill = 0; skill <= 12; skill++) {
            x.skill(24, skill);
            Due.same("behind 0: above", x.alone(24, 0, 0), 1);
            Due.same("behind 0: below", x.alone(24, 0, 1), 1);
        }
        x.skill(24, 11);
        Due.same("11 by 8", x.alone(24, 8, 0), 214358881L);
        Due.same("12 by 8", x.alone(24, 8, 1), 429981696L);
        Due.same("behind 9", x.alone(24, 9, 0), Long.MIN_VALUE);
        Due.same("behind -1", x.alone(24, -1, 0), Long.MIN_VALUE);
        Due.same("girl 25", x.alone(25, 0, 0), Long.MIN_VALUE);
        Due.same("girl -1", x.alone(-1, 0, 0), Long.MIN_VALUE);
        Due.same("part 2", x.alone(24, 0, 2), Long.MIN_VALUE);
        Due.same("part -1", x.alone(24, 0, -1), Long.MIN_VALUE);
    }

    /** "a fraction in lowest terms": also 0 and 1. */
    private static void aloneInLowestTerms() {
        int[] above = {0, 1, 1, 1, 1, 5, 1, 7, 2, 3, 5, 11, 1};
        int[] below = {1, 12, 6, 4, 3, 12, 2, 12, 3, 4, 6, 12, 1};
        HoopWaist x = new HoopWaist();
        for (int skill = 0; skill <= 12; skill++) {
            x.skill(0, skill);
            long up = 1;
            long down = 1;
            for (int y = 1; y <= 8; y++) {
                up *= above[skill];
                down *= below[skill];
                Due.same("above, " + skill, x.alone(0, y, 0), up);
                Due.same("below, " + skill, x.alone(0, y, 1), down);
            }
        }
    }

    /** "as they are SKILL (1 at least), SKILL is 1 more": at 0 it takes 1, at 1 it takes 1, at 2 it takes 2. */
    private static void learningOneAtLeast() {
        for (int skill = 0; skill < 12; skill++) {
            HoopWaist x = new HoopWaist();
            x.skill(3, skill);
            int takes = skill == 0 ? 1 : skill;
            Due.same("till the next, " + skill, x.till(3, skill + 1), takes);
            if (takes > 1) {
                Due.same("1 too few, " + skill, x.learn(3, takes - 1), skill);
                Due.same("they count, " + skill, x.of(3, 21), takes - 1);
                Due.same("1 more, " + skill, x.learn(3, 1), skill + 1);
            } else {
                Due.same("1, " + skill, x.learn(3, 1), skill + 1);
            }
            Due.same("anew, " + skill, x.of(3, 21), 0);
        }
    }

    /** "at 12 none count". */
    private static void learningAtTwelveNoneCount() {
        HoopWaist x = new HoopWaist();
        x.skill(0, 11);
        Due.same("ten at 11", x.learn(0, 10), 11);
        Due.same("two more: the first brings 12, the next does not count", x.learn(0, 2), 12);
        Due.same("none", x.of(0, 21), 0);
        Due.same("99 more", x.learn(0, 99), 12);
        Due.same("none", x.of(0, 21), 0);
        x.skill(1, 12);
        Due.same("told 12", x.learn(1, 5), 12);
        Due.same("none", x.of(1, 21), 0);
        x.skill(1, 11);
        Due.same("from 11 on they count again", x.learn(1, 10), 11);
        Due.same("ten", x.of(1, 21), 10);
    }

    /** "MINUTES of it count from when SKILL became what it is (by skill() or by it)". */
    private static void learningCountsFromWhenItBecame() {
        HoopWaist x = new HoopWaist();
        x.learn(0, 5);
        x.skill(0, 4);
        Due.same("by skill()", x.of(0, 21), 0);
        Due.same("4 and 5 take nine", x.learn(0, 9), 6);
        Due.same("by it", x.of(0, 21), 0);
        Due.same("5 of 6", x.learn(0, 5), 6);
        Due.same("they count", x.of(0, 21), 5);
        Due.same("a refused one changes nothing", x.skill(0, 13), Bench.BAD);
        Due.same("they count on", x.of(0, 21), 5);
        Due.same("the girl beside", x.of(1, 21), 0);
        x.left(5, 30, -1);
        Due.same("the field in thought is no learning", x.of(0, 21), 5);
    }

    /** "n MINUTES (1 .. 99) of LEARNING in deed". */
    private static void oneToNinetyNineMinutes() {
        HoopWaist x = new HoopWaist();
        x.skill(0, 0);
        int[] bad = {Integer.MIN_VALUE, -1, 0, 100, Integer.MAX_VALUE};
        for (int n : bad) {
            Due.same("learn, n " + n, x.learn(0, n), Bench.BAD);
        }
        Due.same("none came", x.of(0, 20) * 100 + x.of(0, 21), 0);
        Due.same("67 from 0 on are all", x.learn(0, 99), 12);
        x.skill(0, 0);
        Due.same("66 are 1 too few", x.learn(0, 66), 11);
        Due.same("the 67th", x.learn(0, 1), 12);
    }

    /** "How many MINUTES till SKILL is a told one or more (0: it is)." */
    private static void tillZeroIfItIs() {
        HoopWaist x = new HoopWaist();
        for (int v = 0; v <= 9; v++) {
            Due.same("it is " + v + " or more", x.till(0, v), 0);
        }
        Due.same("till 10", x.till(0, 10), 9);
        Due.same("till 12", x.till(0, 12), 30);
        x.learn(0, 8);
        Due.same("eight are over", x.till(0, 10), 1);
        Due.same("eight are over, till 12", x.till(0, 12), 22);
        Due.same("till 9 still 0", x.till(0, 9), 0);
        x.skill(0, 0);
        Due.same("from 0 on", x.till(0, 12), 67);
        x.skill(0, 12);
        Due.same("12 is 12", x.till(0, 12), 0);
        Due.same("-1", x.till(0, -1), Bench.BAD);
        Due.same("13", x.till(0, 13), Bench.BAD);
    }
}
