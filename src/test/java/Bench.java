/** Objects made ready for tests that work out by hand what is due. */
final class Bench {
    static final int BAD = HoopWaist.BAD, NOT = HoopWaist.NOT, FULL = HoopWaist.FULL, STATE = HoopWaist.STATE;
    static final int VOID = HoopWaist.VOID;

    private Bench() { }

    /** Hoops that go on as they are: no rub, and a law by which a push does nothing. One change stands. */
    static HoopWaist calm(int... hoops) {
        HoopWaist x = new HoopWaist();
        for (int sh : hoops) {
            x.hoop(sh);
        }
        x.mend(0, 3, 0);
        tell(x, "0");
        return x;
    }

    static int tell(HoopWaist x, String text) {
        return Pair.tell(x, text);
    }

    /** A row of bytes on a shelf. */
    static void lay(HoopWaist x, int shelf, int... bytes) {
        x.row(shelf, 0, bytes.length);
        for (int i = 0; i < bytes.length; i++) {
            x.put(shelf, i, bytes[i]);
        }
    }

    /** Lets a hoop of a calm object sink until it lies: by 2 each tick, ten ticks. */
    static void sink(HoopWaist x, int hoop) {
        x.mend(hoop, 2, 0);
        x.go(10);
    }

    /** PACE, PLACE, HIGH of a hoop as one text, which reads better than three answers. */
    static String way(HoopWaist x, int hoop) {
        return x.of(hoop, 2) + " " + x.of(hoop, 3) + " " + x.of(hoop, 4);
    }
}
