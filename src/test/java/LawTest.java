import java.util.Random;

/** Promises 6 and 7: the tape, the law, its faults and what it gives. */
public final class LawTest {
    public static void main(String[] args) {
        feed();
        faults();
        openAtOnce();
        accepted();
        faultsAreFirst();
        aFaultKeepsTheOldLaw();
        gives();
        withoutText();
        randomLaws();
        Due.end();
    }

    // Promise 6
    private static void feed() {
        HoopWaist x = new HoopWaist();
        for (int letter : new int[] {-1, 256, Integer.MIN_VALUE, Integer.MAX_VALUE}) {
            Due.same("feed(" + letter + ")", x.feed(letter), HoopWaist.BAD);
        }
        Due.same("nothing came", x.count(2), 0);
        Due.same("feed(0)", x.feed(0), 1);
        Due.same("feed(255)", x.feed(255), 2);
        for (int i = 3; i <= 120; i++) {
            Due.same("byte " + i, x.feed('n'), i);
        }
        Due.same("byte 121", x.feed('n'), HoopWaist.FULL);
        Due.same("a bad byte ahead of full", x.feed(256), HoopWaist.BAD);
        Due.same("count(2)", x.count(2), 120);
        Due.same("law", x.law(), -100);
        Due.same("the tape is empty", x.count(2), 0);
    }

    private static int tell(String text) {
        return Pair.tell(new HoopWaist(), text);
    }

    // Promise 7
    private static void faults() {
        String[] texts = {"", "?", ";", "n?", "n;", "n;;n", "n?1?2", "12345", "1234n", "nn", "n+", "n+*", "n<v<s", "n=v>s",
            "(n", "(n?1)", "()", "n)", "(n))", " n", "n ", "x", "N", "n<=v", "n||v", "n&&v", "!", "-", "1;n?", "n?(1;2)",
            "n(", "12(", "(n)v", "n?1;v>2?", "n<v|s<h&f=y?1;(2", "n!v", "n-", "n--", "2%%2", "n\0"};
        int[] at = {0, 0, 0, 2, 2, 2, 3, 4, 4, 1, 2, 2, 3, 3,
            2, 2, 1, 1, 3, 0, 1, 0, 0, 2, 2, 2, 1, 1, 4, 4,
            1, 2, 3, 8, 16, 1, 2, 3, 2, 1};
        for (int i = 0; i < texts.length; i++) {
            Due.same("fault of " + texts[i], tell(texts[i]), -100 - at[i]);
        }
        Due.same("a byte above 127", tell("n+" + (char) 200), -102);
    }

    private static void openAtOnce() {
        Due.same("six", tell("!!!---n"), 1);
        Due.same("seven", tell("!!!----n"), -106);
        Due.same("six of (", tell("((((((n))))))"), 1);
        Due.same("seven of (", tell("(((((((n)))))))"), -106);
        Due.same("they close", tell("((((((n))))))+((((((v))))))*------s"), 1);
        Due.same("behind an open (", tell("(n+!!!!!v)-1"), 1);
        Due.same("behind an open (, seven", tell("(n+!!!!!!v)-1"), -108);
        Due.same("! closes with its O", tell("!(n)+!!!!!!v"), 1);
        Due.same("! stays open within its (", tell("!(n+!!!!!v)"), -108);
    }

    private static void accepted() {
        for (String text : new String[] {"0", "0000", "9999", "n", "v", "s", "h", "f", "y", "n--n", "n-!n", "n?v", "n;v",
            "n<v?s=h;f>y?n|v&s;1", "(n<v)<s", "n<v&v<s|s<h", "1+2-3*4/5%6", "-1", "!0", "n?1;n?2;n?3"}) {
            Due.same("law of " + text, tell(text), 1);
        }
        StringBuilder b = new StringBuilder("n");
        while (b.length() < 119) {
            b.append("+n");
        }
        Due.same("119 bytes", tell(b.toString()), 1);
        Due.same("120 bytes, ending too early", tell(b + "+"), -220);
        Due.same("120 bytes, no law from 1 on", tell("1" + b), -101);
        Due.same("120 bytes that are a law", tell("!" + b), 1);
        StringBuilder lines = new StringBuilder("1");
        while (lines.length() < 119) {
            lines.append(";1");
        }
        Due.same("sixty lines", tell(lines.toString()), 1);
    }

    /** Of every random tape: what is ahead of the fault goes on to a text, and with the fault's byte nothing does. */
    private static void faultsAreFirst() {
        Random r = new Random(7);
        String bytes = "nvshfy0123456789|&<=>+-*/%!(?;)()nn19";
        for (int i = 0; i < 6000; i++) {
            StringBuilder b = new StringBuilder();
            int length = r.nextInt(14);
            for (int j = 0; j < length; j++) {
                b.append(bytes.charAt(r.nextInt(bytes.length())));
            }
            String text = b.toString();
            int answer = tell(text);
            int place = -100 - answer;
            if (answer == 1) {
                Due.holds("all of " + text + " is ahead of no fault", Recogniser.isText(text));
            } else {
                Due.holds("no text: " + text, !Recogniser.isText(text));
                Due.holds("goes on: " + text.substring(0, place), goesOn(text.substring(0, place)));
                Due.holds("ends: " + text, place == text.length() || !goesOn(text.substring(0, place + 1)));
            }
        }
    }

    /** If any text begins so, then one that adds a number (or nothing) and closes what is open. */
    private static boolean goesOn(String begin) {
        StringBuilder close = new StringBuilder();
        for (int i = 0; i <= 6; i++) {
            if (Recogniser.isText(begin + close) || Recogniser.isText(begin + "0" + close)) {
                return true;
            }
            close.append(')');
        }
        return false;
    }

    private static void aFaultKeepsTheOldLaw() {
        Pair p = new Pair();
        p.hoop(5, 5);
        Due.same("a law", p.law("7"), 1);
        Due.same("pace by it", p.x.then(0, 1, 1), 9);
        Due.same("a fault", p.law("1+"), -102);
        Due.same("the old law counts", p.x.then(0, 1, 1), 9);
        Due.same("an empty tape", p.law(""), -100);
        Due.same("the old law counts", p.x.then(0, 1, 1), 9);
        Due.same("another law", p.law("-2"), 1);
        Due.same("pace by the new one", p.x.then(0, 1, 1), 2);
    }

    /** What a law adds to a pace of 4 at place 0: size 5, heavy 9, strength 2, high 20, push fore. */
    private static int by(String text) {
        HoopWaist x = new HoopWaist();
        x.hoop(59);
        x.mend(0, 3, 0);
        Pair.tell(x, text);
        return x.then(0, 1, 1) - 4;
    }

    private static void gives() {
        String[] texts = {"n", "v-3", "s-4", "h-8", "f", "y-18", "5-2-1", "9/2/2", "2*2+1", "1+2*2", "7%4", "0-7/2", "-7%4",
            "5/0", "5%0", "3|0", "0|0", "3&2", "3&0", "1<2", "2<1", "2=2", "2>2", "3>2", "!0", "!5", "!!5", "--3", "-!0",
            "(1+2)*1", "99", "-99", "0?3;2", "1?3;2", "0?3;0?4", "0?1;n;3", "n=0?1", "7|1+1", "1+1=2", "0-1<0&v=4",
            "9999*9999*9999*9999", "1|0&0", "(1|0)&0", "!0+1", "-1+3", "-2*-2", "0?5"};
        int[] want = {0, 1, 1, 1, 2, 2, 2, 2, 5, 5, 3, -3, -3,
            0, 0, 1, 0, 1, 0, 1, 0, 1, 0, 1, 1, 0, 1, 3, -1,
            3, 5, -4, 2, 3, 0, 0, 1, 1, 1, 1,
            0, 1, 0, 2, 2, 4, 0};
        for (int i = 0; i < texts.length; i++) {
            Due.same("what " + texts[i] + " adds", by(texts[i]), texts[i].startsWith("9999*") ? wrapped() : want[i]);
        }
    }

    private static int wrapped() {
        int v = 9999 * 9999;
        v = v * 9999;
        v = v * 9999;
        return v > 0 ? 5 : v < 0 ? -4 : 0;
    }

    private static void withoutText() {
        for (int place = 0; place < 24; place++) {
            HoopWaist x = new HoopWaist();
            x.hoop(99);
            x.mend(0, 3, 0);
            x.mend(0, 4, 24);
            x.mend(0, 5, 23);
            x.mend(0, 2, 1);
            if (place > 0) {
                x.go(place);
            }
            x.mend(0, 6, 3);
            x.mend(0, 5, place);
            int far = Math.min(place, 24 - place);
            Due.same("place " + place, x.of(0, 3), place);
            Due.same("pace behind a push fore from place " + place, x.then(0, 1, 1), far <= 2 ? 4 : far >= 10 ? 0 : 1);
        }
    }

    private static void randomLaws() {
        Random r = new Random(11);
        for (int i = 0; i < 4000; i++) {
            String text = Pair.randomLaw(r);
            HoopWaist x = new HoopWaist();
            int size = 1 + r.nextInt(9);
            int heavy = 2 + r.nextInt(8);
            int pace = r.nextInt(19) - 9;
            x.hoop(10 * size + heavy);
            x.mend(0, 2, pace);
            int force = r.nextInt(6);
            x.mend(0, 6, force);
            Due.holds("a law: " + text, Pair.tell(x, text) == 1 && Recogniser.isText(text));
            int by = Model.worth(text, new int[] {0, Math.abs(pace), size, heavy, force, 20});
            int speed = Math.max(0, Math.min(9, Math.abs(pace) + Math.max(-9, Math.min(9, by))));
            Due.same(text, x.then(0, 1, 1), pace < 0 ? -speed : speed);
        }
    }
}
