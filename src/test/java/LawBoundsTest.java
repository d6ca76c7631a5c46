/** Terms 1, THE LAW, and promises 6 and 7: each sentence that names a bound has a method of its own. */
public final class LawBoundsTest {
    private static final int MIN = Integer.MIN_VALUE;
    private static final String LEAST = "8192*8192*32", MOST = "(8192*8192*32-1)";

    public static void main(String[] args) {
        theTapeIsFull();
        everyByte();
        oneLineOrMore();
        aLineIsOneOrTwo();
        everyEHasAllSigns();
        comparedOnce();
        oneToFourDigits();
        noBlanks();
        theNames();
        howFarItIs();
        sixOpenAtOnce();
        faultIsTheLengthIfItEndsTooEarly();
        faultIsTheFirstByte();
        theTapeIsEmptyThen();
        intsThatWrap();
        towardZero();
        byZeroTheyGiveZero();
        oneOrZero();
        whichLineCounts();
        heldWithinNine();
        withoutAText();
        Due.end();
    }

    private static int tell(String text) {
        return Bench.tell(new HoopWaist(), text);
    }

    /** What a law is worth, seen by a hoop that has it all: the law asks for it by =. */
    private static void worth(String e, int want) {
        String number = want == MIN ? LEAST : want < 0 ? "(0-" + parts(-(long) want) + ")" : parts(want);
        Due.same(e + " is " + want, adds("(" + e + ")=" + number + "?2;1"), 2);
    }

    /** A number of any size from numbers of four digits. */
    private static String parts(long v) {
        return v < 1000 ? Long.toString(v) : "(" + parts(v / 1000) + "*1000+" + v % 1000 + ")";
    }

    /** By how much PACE is more: SIZE 5, HEAVY 9, STRENGTH 2, HIGH 20, PACE 4, at 0, the push fore. */
    private static int adds(String text) {
        HoopWaist x = new HoopWaist();
        x.hoop(59);
        x.mend(0, 3, 0);
        Due.same("a law: " + text, Bench.tell(x, text), 1);
        return x.then(0, 1, 1) - 4;
    }

    /** "a TEXT by THE TAPE (at most 120 bytes)"; "BAD, FULL (120)". */
    private static void theTapeIsFull() {
        HoopWaist x = new HoopWaist();
        for (int i = 1; i <= 119; i++) {
            x.feed(i % 2 == 1 ? '1' : ';');
        }
        Due.same("the 120th", x.feed('2'), 120);
        Due.same("the 121st", x.feed('3'), Bench.FULL);
        Due.same("120 are there", x.count(2), 120);
        Due.same("it is a law of 120 bytes", x.law(), 1);
        Due.same("the tape has room again", x.feed('1'), 1);
    }

    /** "A byte (0 .. 255)": all of them, as the first byte, behind an O, and within a number. */
    private static void everyByte() {
        for (int letter = 0; letter <= 255; letter++) {
            char c = (char) letter;
            boolean digit = c >= '0' && c <= '9';
            boolean whole = digit || "nvshfy".indexOf(c) >= 0;
            boolean opens = "(!-".indexOf(c) >= 0;
            boolean joins = "|&<=>+-*/%?;".indexOf(c) >= 0;
            Due.same("byte " + letter + " alone", tell("" + c), whole ? 1 : opens ? -101 : -100);
            Due.same("byte " + letter + " behind n", tell("n" + c), joins ? -102 : -101);
            Due.same("byte " + letter + " behind 7", tell("7" + c), digit ? 1 : joins ? -102 : -101);
            Due.same("byte " + letter + " behind (7", tell("(7" + c), c == ')' ? 1
                : digit || joins && c != '?' && c != ';' ? -103 : -102);
        }
    }

    /** "LINES, one or more, parted by ;". */
    private static void oneLineOrMore() {
        Due.same("none", tell(""), -100);
        Due.same("one", tell("1"), 1);
        Due.same("two", tell("1;2"), 1);
        Due.same("an empty one first", tell(";1"), -100);
        Due.same("an empty one between", tell("1;;2"), -102);
        Due.same("an empty one last", tell("1;"), -102);
    }

    /** "LINE: E, or E ? E". */
    private static void aLineIsOneOrTwo() {
        Due.same("E", tell("n"), 1);
        Due.same("E ? E", tell("n?1"), 1);
        Due.same("no first E", tell("?1"), -100);
        Due.same("no second E", tell("n?"), -102);
        Due.same("no second E, a line behind", tell("n?;1"), -102);
        Due.same("a third E", tell("n?1?2"), -103);
        Due.same("a ? within ( )", tell("(n?1)"), -102);
        Due.same("a ; within ( )", tell("(n;1)"), -102);
    }

    /** "LINE: E, or E ? E": each E, of the first and of a later LINE, within ( ) too, has all signs and its own six open. */
    private static void everyEHasAllSigns() {
        String[] ahead = {"", "n?", "1;", "n?1;", "n?1;v?", "1;2;3?", "("};
        for (String text : ahead) {
            String close = text.equals("(") ? ")" : "";
            for (char sign : "|&<=>+-*/%".toCharArray()) {
                Due.same("behind " + text + " a " + sign, tell(text + "n" + sign + "v" + close), 1);
            }
            for (char sign : "!-".toCharArray()) {
                Due.same("behind " + text + " a " + sign, tell(text + sign + "n" + close), 1);
            }
            int open = 6 - close.length();
            String most = text + "(".repeat(open) + "n" + ")".repeat(open);
            Due.same("six open: " + most, tell(most + close), 1);
            Due.same("seven open", tell(text + "(".repeat(open + 1) + "n"), -100 - text.length() - open);
        }
        Due.same("0 | 7 in the second E", adds("1?0|7"), 1);
        Due.same("0 | 7 in a later LINE", adds("0?5;0|7"), 1);
    }

    /** "B = S, or S < S, S = S, S > S": no third S. */
    private static void comparedOnce() {
        for (char first : "<=>".toCharArray()) {
            Due.same("two", tell("n" + first + "v"), 1);
            for (char next : "<=>".toCharArray()) {
                Due.same("three", tell("n" + first + "v" + next + "s"), -103);
                Due.same("three by ( )", tell("(n" + first + "v)" + next + "s"), 1);
                Due.same("four by &", tell("n" + first + "v&s" + next + "h"), 1);
            }
        }
    }

    /** "a number (1 to 4 digits)". */
    private static void oneToFourDigits() {
        Due.same("one", tell("0"), 1);
        Due.same("four", tell("9999"), 1);
        Due.same("four, 0 first", tell("0000"), 1);
        Due.same("five", tell("10000"), -104);
        Due.same("five, 0 first", tell("00001"), -104);
        Due.same("five behind a sign", tell("n+12345"), -106);
        worth("9999", 9999);
        worth("0012", 12);
    }

    /** "No blanks." */
    private static void noBlanks() {
        Due.same("ahead", tell(" n"), -100);
        Due.same("behind", tell("n "), -101);
        Due.same("between", tell("n +1"), -101);
        Due.same("behind a sign", tell("n+ 1"), -102);
        Due.same("a tab", tell("\tn"), -100);
        Due.same("the end of a row", tell("n\n"), -101);
    }

    /** "v PACE without its sign, s SIZE, h HEAVY, f STRENGTH, y HIGH", at their least and most. */
    private static void theNames() {
        int[] paces = {-9, 0, 9};
        for (int pace : paces) {
            HoopWaist x = Bench.calm(99);
            x.mend(0, 2, pace);
            Bench.tell(x, "v=" + Math.abs(pace) + "?0;0-v");
            Due.same("v of " + pace, x.then(0, 1, 1), pace);
        }
        int[] hoops = {11, 19, 91, 99};
        for (int sh : hoops) {
            HoopWaist x = Bench.calm(sh);
            Bench.tell(x, "s=" + sh / 10 + "&h=" + sh % 10 + "?3");
            Due.same("s and h of " + sh, x.then(0, 1, 1), 7);
        }
        for (int strength = 0; strength <= 5; strength++) {
            HoopWaist x = Bench.calm(99);
            x.mend(0, 6, strength);
            Bench.tell(x, "f=" + strength + "?3");
            Due.same("f of " + strength, x.then(0, 1, 1), 7);
        }
        HoopWaist x = Bench.calm(99);
        x.mend(0, 4, 2);
        Bench.tell(x, "y=20?1");
        Due.same("y of 20", x.then(0, 1, 1), 5);
        x.mend(0, 2, 0);
        Bench.tell(x, "y=2?9");
        Due.same("y of 2, at the last push that can be", x.falls(0), 10);
        x.mend(0, 5, 1);
        Due.same("y of 2 at tick 9", x.falls(0), Bench.NOT);
    }

    /** "n how far it is from where the PUSH goes (0 .. 12)": from all places, fore and back. */
    private static void howFarItIs() {
        for (int place = 0; place < 24; place++) {
            for (int back = 0; back <= 1; back++) {
                HoopWaist x = Bench.calm(99);
                x.mend(0, 2, 1);
                x.mend(0, 4, 24);
                if (place + back > 0) {
                    x.go(place + 24 * back);
                }
                int t = x.of(0, 15);
                x.mend(0, 5, t % 24);
                int away = Math.abs(place - 12 * back);
                int far = Math.min(away, 24 - away);
                x.mend(0, 2, 4);
                Bench.tell(x, "n=" + far + "?3");
                Due.same("place of " + place, x.of(0, 3), place);
                Due.same("far from " + place + " to " + 12 * back, x.then(0, 1, 1), 7);
            }
        }
    }

    /** "At most 6 of ( ! - ahead of an O are open at once." */
    private static void sixOpenAtOnce() {
        for (char sign : "(!-".toCharArray()) {
            String six = ("" + sign).repeat(6);
            String close = sign == '(' ? "))))))" : "";
            Due.same("six of " + sign, tell(six + "n" + close), 1);
            for (char seventh : "(!-".toCharArray()) {
                Due.same("seven: " + six + seventh, tell(six + seventh + "n)))))))"), -106);
            }
            Due.same("a second six behind the first", tell(six + "n" + close + "+" + six + "n" + close), 1);
        }
        Due.same("five and a - between two", tell("(((((n-n)))))"), 1);
        Due.same("six and a - between two", tell("((((((n-n))))))"), 1);
        Due.same("six, a - between two and one more", tell("((((((n--n))))))"), -108);
        Due.same("closed and opened again", tell("(((((" + "(n)+(n)*!n" + ")))))"), 1);
        Due.same("closed and opened twice", tell("(((((" + "(n)+!-n" + ")))))"), -110);
    }

    /** "FAULT: ... the length, if it ends too early." */
    private static void faultIsTheLengthIfItEndsTooEarly() {
        String[] early = {"", "n+", "n?", "n;", "(", "!", "-", "(n", "n<", "n|v&", "1;2?3;", "((n)", "n?(v"};
        for (String text : early) {
            Due.same("too early: " + text, tell(text), -100 - text.length());
        }
        String longest = "n+".repeat(60);
        Due.same("too early at 120", tell(longest), -220);
        Due.same("too early at 119", tell(longest.substring(0, 118) + "("), -219);
    }

    /** "FAULT: the place (from 0) of the first byte with which no TEXT goes on". */
    private static void faultIsTheFirstByte() {
        String ahead = "1;".repeat(59);
        Due.same("the first of 120", tell(")" + ahead + "1"), -100);
        Due.same("the last of 120", tell(ahead + "1)"), -219);
        Due.same("of two the first", tell("n)+)"), -101);
        Due.same("the rest does not mend it", tell("n)+1"), -101);
    }

    /** "-100 less its FAULT; THE TAPE is empty then", whichever it was, and what counted counts on behind a FAULT. */
    private static void theTapeIsEmptyThen() {
        HoopWaist x = Bench.calm(99);
        Due.same("a law", Bench.tell(x, "5"), 1);
        Due.same("the tape is empty", x.count(2), 0);
        Due.same("a fault", Bench.tell(x, "3+)"), -102);
        Due.same("the tape is empty, too", x.count(2), 0);
        Due.same("the law is as it was", x.then(0, 1, 1), 9);
        Due.same("nothing of the fault stays", Bench.tell(x, "1"), 1);
        Due.same("the next law", x.then(0, 1, 1), 5);
        Due.same("an empty tape", x.law(), -100);
        Due.same("the law is as it was", x.then(0, 1, 1), 5);
    }

    /** "Ints that wrap". */
    private static void intsThatWrap() {
        worth(LEAST, MIN);
        worth(LEAST + "-1", Integer.MAX_VALUE);
        worth(MOST + "+1", MIN);
        worth("-(" + LEAST + ")", MIN);
        worth("8192*8192*64", 0);
        worth("9999*9999*9999", 9999 * 9999 * 9999);
        worth("-(9999*9999*9999)*7", -(9999 * 9999 * 9999) * 7);
        worth(LEAST + "<" + MOST, 1);
        worth(LEAST + "<1", 1);
        worth(LEAST + "-" + MOST, 1);
    }

    /** "/ and % toward 0"; also of the least int by -1, which wraps. */
    private static void towardZero() {
        worth("7/2", 3);
        worth("-7/2", -3);
        worth("7/-2", -3);
        worth("-7/-2", 3);
        worth("7%2", 1);
        worth("-7%2", -1);
        worth("7%-2", 1);
        worth("-7%-2", -1);
        worth("1/2", 0);
        worth("-1/2", 0);
        worth(LEAST + "/-1", MIN);
        worth(LEAST + "%-1", 0);
        worth(MOST + "/-1", -Integer.MAX_VALUE);
    }

    /** "by 0 they give 0". */
    private static void byZeroTheyGiveZero() {
        worth("7/0", 0);
        worth("7%0", 0);
        worth("-7/0", 0);
        worth("0/0", 0);
        worth("0%0", 0);
        worth("5/(3-3)+1", 1);
        worth("5%n+1", 1);
        worth(LEAST + "/0", 0);
        worth(LEAST + "%0", 0);
    }

    /** "| & < = > ! give 1, 0". */
    private static void oneOrZero() {
        worth("7|0", 1);
        worth("0|7", 1);
        worth("-7|7", 1);
        worth("0|0", 0);
        worth("2&4", 1);
        worth("-2&4", 1);
        worth("0&4", 0);
        worth("4&0", 0);
        worth("3<4", 1);
        worth("4<4", 0);
        worth("5<4", 0);
        worth("4=4", 1);
        worth("4=5", 0);
        worth("5>4", 1);
        worth("4>4", 0);
        worth("3>4", 0);
        worth("!0", 1);
        worth("!7", 0);
        worth("!-7", 0);
        worth("!!7", 1);
        worth("0-1<0", 1);
        worth("1|1/0", 1);
        worth("0&1/0", 0);
    }

    /** "The first LINE without a first E, or whose first E is not 0, counts; none: 0." */
    private static void whichLineCounts() {
        Due.same("without a first E", adds("3;2"), 3);
        Due.same("not 0", adds("1?3;2"), 3);
        Due.same("below 0 is not 0", adds("-1?3;2"), 3);
        Due.same("0, then without", adds("0?3;2"), 2);
        Due.same("0, then not 0", adds("0?3;7?2;1"), 2);
        Due.same("one that counts gives 0", adds("1?0;2"), 0);
        Due.same("one without gives 0", adds("0;2"), 0);
        Due.same("none", adds("0?3;0?2"), 0);
        Due.same("none of sixty", adds("0?1;".repeat(29) + "0?1"), 0);
        Due.same("the last of many", adds("0?1;".repeat(29) + "5"), 5);
    }

    /** "(held within -9 .. 9)": what is far beyond does not wrap when it comes to PACE. */
    private static void heldWithinNine() {
        int[] paces = {-9, -4, 0, 4, 9};
        for (int pace : paces) {
            HoopWaist x = Bench.calm(99);
            x.mend(0, 2, pace);
            int sign = pace < 0 ? -1 : 1;
            String[] much = {"9", "10", "9999", MOST};
            for (String text : much) {
                Bench.tell(x, text);
                Due.same(text + " on " + pace, x.then(0, 1, 1), sign * 9);
            }
            String[] little = {"-9", "-10", "-9999", "-" + MOST, LEAST};
            for (String text : little) {
                Bench.tell(x, text);
                Due.same(text + " on " + pace, x.then(0, 1, 1), 0);
            }
        }
    }

    /** "Without a text: STRENGTH, if n is 2 or less; -1, if n is 10 or more; else 0." */
    private static void withoutAText() {
        int[] places = {0, 1, 2, 3, 9, 10, 11, 12, 13, 14, 15, 21, 22, 23};
        int[] by = {5, 5, 5, 0, 0, -1, -1, -1, -1, -1, 0, 0, 5, 5};
        for (int i = 0; i < places.length; i++) {
            HoopWaist x = new HoopWaist();
            x.mend(0, 3, 0);
            x.mend(0, 4, 24);
            x.mend(0, 5, places[i] == 0 ? 0 : 23);
            x.hoop(99);
            x.mend(0, 2, 1);
            if (places[i] > 0) {
                x.go(places[i]);
                x.mend(0, 5, places[i]);
            }
            x.mend(0, 6, 5);
            x.mend(0, 2, 3);
            Due.same("the place", x.of(0, 3), places[i]);
            Due.same("without a text at " + places[i], x.then(0, 1, 1), 3 + by[i]);
            x.mend(0, 6, 0);
            Due.same("STRENGTH 0 at " + places[i], x.then(0, 1, 1), 3 + Math.min(0, by[i]));
        }
    }
}
