/**
 * Every refused call of every promise, in benches that are new, in use and full: it answers as due and changes nothing,
 * neither the buffer, the cues, the rate, the rules and the shots nor what can be taken back.
 */
public final class RefusedTest {
    private static final int NONE = CueBench.NONE, BAD = CueBench.BAD, FULL = CueBench.FULL;
    private static final int[] FAR = {Integer.MIN_VALUE, Integer.MAX_VALUE};
    private static final int REFUSED = 0;

    public static void main(String[] args) {
        putBad();
        putFull();
        rates();
        readBad();
        readFaults();
        writeBad();
        writeFull();
        shotBad();
        shotFull();
        rules();
        repairs();
        breakLines();
        twoPoints();
        shifts();
        merges();
        splitsBad();
        splitsFull();
        undo();
        questionsChangeNothing();
        Due.end();
    }

    private static void fresh(CueBench x) {
    }

    /** Three cues, with own rate and rules, two shots, five changes and bytes in the buffer. */
    private static void inUse(CueBench x) {
        x.rate(30000, 1001);
        x.rules(3, 25, 150, 20);
        x.shot(60);
        x.shot(0);
        String later = "{50}{90}" + Due.times("y", 30) + "\n{50}{99}" + Due.times("z", 40) + "\n";
        Due.read(x, CueBench.FRAMES, "{10}{60}ab|cd\n" + later);
        x.shift(7);
        x.shift(-3);
        x.split(0, 1);
        x.merge(0);
    }

    /** 16 cues, 20 shots, 1000 bytes, ten changes and more, one of them taken back. */
    private static void full(CueBench x) {
        String cue = Due.packed(5, 900, "a\nbc");
        Due.read(x, CueBench.PACKED, Due.times(cue, 15) + Due.packed(6, 1000, Due.times("y", 60) + " y\nz"));
        for (int k = 0; k < 12; k++) x.shift(k);
        x.undo();
        for (int k = 1; k <= 20; k++) x.shot(4 * k);
        Due.fill(x, Due.times("0123456789", 100));
    }

    private static void everywhere(String what, Twins.Call call, long due) {
        Twins.unchanged(what + " of a new one", RefusedTest::fresh, call, due);
        Twins.unchanged(what + " of one in use", RefusedTest::inUse, call, due);
        Twins.unchanged(what + " of a full one", RefusedTest::full, call, due);
    }

    private static long told(boolean answer) {
        return answer ? 1 : REFUSED;
    }

    private static void putBad() {
        for (int n : new int[] {0, 9, -1, Integer.MIN_VALUE, Integer.MAX_VALUE}) {
            everywhere("put(65, " + n + ")", x -> x.put(65, n), BAD);
        }
    }

    private static void putFull() {
        for (int n = 1; n <= 8; n++) {
            int more = n;
            Twins.unchanged("put(65, " + n + ") of a full one", RefusedTest::full, x -> x.put(65, more), FULL);
            Twins.Calls nearlyFull = x -> Due.fill(x, Due.times("z", 1001 - more));
            Twins.unchanged("put(65, " + n + ")", nearlyFull, x -> x.put(65, more), FULL);
        }
    }

    private static void rates() {
        int[][] wrong = {
            {0, 1}, {-1, 1}, {120001, 1001}, {25, 0}, {25, -1}, {1002, 1002}, {11, 1}, {1, 2}, {63, 1}, {120000, 1001},
            {Integer.MIN_VALUE, 1}, {Integer.MAX_VALUE, 1}, {25, Integer.MIN_VALUE}, {25, Integer.MAX_VALUE}
        };
        for (int[] w : wrong) everywhere("rate(" + w[0] + ", " + w[1] + ")", x -> told(x.rate(w[0], w[1])), REFUSED);
    }

    private static void readBad() {
        for (int form : new int[] {-1, 3, Integer.MIN_VALUE, Integer.MAX_VALUE}) {
            everywhere("read(" + form + ")", x -> x.read(form), BAD);
        }
    }

    private static void fault(int form, String bytes, int place) {
        Twins.Call read = x -> x.read(form);
        String what = "read(" + form + ") of " + Due.shown(bytes);
        Twins.unchanged(what, x -> Due.fill(x, bytes), read, -10 - place);
        Twins.unchanged(what + " in use", x -> {
            inUse(x);
            Due.fill(x, bytes);
        }, read, -10 - place);
        Twins.unchanged(what + " of a full one", x -> {
            full(x);
            Due.fill(x, bytes);
        }, read, -10 - place);
    }

    /** A fault of every kind, each behind a cue that is good. */
    private static void readFaults() {
        for (int form = 0; form < 3; form++) {
            String good = Due.cue(form, 3, 4, "q");
            int behind = good.length();
            fault(form, good + good.substring(0, 5), behind + 5);
            fault(form, good + Due.cue(form, 5, 5, "r"), behind);
            fault(form, good + Due.cue(form, 2, 5, "r"), behind);
            fault(form, good + Due.cue(form, 5, 6, "\u007f"), behind + Due.before(form, 5, 6));
            fault(form, Due.times(good, 17), 16 * behind);
        }
        fault(0, "00:00:01,000 > 01:00:00,001\na\n\n", 0);
        fault(1, "{1}{900000}a\n", 0);
        fault(2, Due.packed(1, CueBench.LAST + 1, "a"), 0);
        Twins.unchanged("read(1) of digits", RefusedTest::full, x -> x.read(1), -10);
    }

    private static void writeBad() {
        for (int form : new int[] {-1, 3, Integer.MIN_VALUE, Integer.MAX_VALUE}) {
            everywhere("write(" + form + ")", x -> x.write(form), BAD);
        }
    }

    private static void writeFull() {
        String big = Due.times(Due.packed(1, 2, Due.times("y", 64)), 12);
        Twins.Calls packed = x -> Due.read(x, 2, big + Due.packed(1, 2, Due.times("y", 10)));
        Twins.unchanged("write(0) of more than 1000", packed, x -> x.write(0), FULL);
        String cue = "{1}{2}" + Due.times("y", 64) + "\n";
        Twins.unchanged("write(2) of 1001", x -> Due.read(x, 1, Due.times(cue, 13)), x -> x.write(2), FULL);
        long frame = 28224000;
        String far = Due.times(Due.packed(20000 * frame, 30000 * frame, Due.times("y", 64)), 12);
        Twins.Calls many = x -> Due.read(x, 2, far + Due.packed(20000 * frame, 30000 * frame, Due.times("y", 50)));
        Twins.unchanged("write(1) of more than 1000", many, x -> x.write(1), FULL);
    }

    private static void shotBad() {
        for (int frame : new int[] {-1, 216001, Integer.MIN_VALUE, Integer.MAX_VALUE}) {
            everywhere("shot(" + frame + ")", x -> x.shot(frame), BAD);
        }
    }

    private static void shotFull() {
        for (int frame : new int[] {0, 1, 79, 81, 216000}) {
            Twins.unchanged("shot(" + frame + ") of a full one", RefusedTest::full, x -> x.shot(frame), FULL);
        }
        // One that is there is not added again.
        Twins.unchanged("shot(4) of a full one", RefusedTest::full, x -> x.shot(4), 20);
        Twins.unchanged("shot(80) of a full one", RefusedTest::full, x -> x.shot(80), 20);
        Twins.unchanged("shot(60) of one in use", RefusedTest::inUse, x -> x.shot(60), 2);
    }

    private static void rules() {
        int[][] wrong = {
            {-1, 1, 400, 60}, {21, 1, 400, 60}, {0, 0, 400, 60}, {0, 101, 400, 60}, {0, 50, 49, 60}, {0, 1, 401, 60},
            {0, 1, 400, 0}, {0, 1, 400, 61}, {0, 1, 0, 60}
        };
        for (int[] w : wrong) {
            String call = "rules(" + w[0] + ", " + w[1] + ", " + w[2] + ", " + w[3] + ")";
            everywhere(call, x -> told(x.rules(w[0], w[1], w[2], w[3])), REFUSED);
        }
    }

    private static void repairs() {
        Twins.Calls tooLong = x -> Due.read(x, 1, "{100}{150}a\n{200}{500}b\n{600}{700}c\n");
        Twins.unchanged("repair of a cue that is too long", tooLong, CueBench::repair, -11);
        Twins.unchanged("repair of a full one", RefusedTest::full, CueBench::repair, -11);
        Twins.unchanged("repair of one that is too short", x -> {
            inUse(x);
            x.rules(0, 100, 100, 60);
        }, CueBench::repair, -11);
    }

    private static void breakLines() {
        for (int i : new int[] {-1, 16, Integer.MIN_VALUE, Integer.MAX_VALUE}) {
            everywhere("breakLines(" + i + ")", x -> x.breakLines(i), BAD);
        }
        Twins.unchanged("breakLines(0) of none", RefusedTest::fresh, x -> x.breakLines(0), BAD);
        Twins.unchanged("breakLines(3) of three", RefusedTest::inUse, x -> x.breakLines(3), BAD);
        Twins.unchanged("breakLines(1)", RefusedTest::inUse, x -> x.breakLines(1), NONE);
        Twins.unchanged("breakLines(15)", RefusedTest::full, x -> x.breakLines(15), NONE);
    }

    private static void twoPoints() {
        int[][] wrong = {
            {-1, 0, 5, 5}, {0, -1, 5, 5}, {5, 5, -1, 0}, {5, 5, 0, -1}, {0, 0, 107893, 5}, {0, 0, 5, 107893},
            {107893, 5, 0, 0}, {5, 107893, 0, 0}, {5, 1, 5, 9}, {5, 7, 6, 7}, {5, 7, 6, 6},
            {Integer.MIN_VALUE, 0, 5, 5}, {0, 0, Integer.MAX_VALUE, 5}
        };
        for (int[] w : wrong) {
            String call = "twoPoint(" + w[0] + ", " + w[1] + ", " + w[2] + ", " + w[3] + ")";
            everywhere(call, x -> told(x.twoPoint(w[0], w[1], w[2], w[3])), REFUSED);
        }
        Twins.unchanged("below 0", RefusedTest::inUse, x -> told(x.twoPoint(20, 0, 30, 10)), REFUSED);
        Twins.unchanged("beyond LAST", RefusedTest::inUse, x -> told(x.twoPoint(10, 0, 20, 20000)), REFUSED);
        Twins.unchanged("no duration left", RefusedTest::inUse, x -> told(x.twoPoint(0, 0, 500, 1)), REFUSED);
        Twins.unchanged("no duration left", RefusedTest::full, x -> told(x.twoPoint(0, 0, 1, 1)), REFUSED);
    }

    private static void shifts() {
        long last = CueBench.LAST;
        for (long ticks : new long[] {last + 1, -last - 1, Long.MIN_VALUE, Long.MAX_VALUE}) {
            everywhere("shift(" + ticks + ")", x -> told(x.shift(ticks)), REFUSED);
        }
        for (long ticks : new long[] {-last, last}) {
            Twins.unchanged("shift(" + ticks + ")", RefusedTest::inUse, x -> told(x.shift(ticks)), REFUSED);
            Twins.unchanged("shift(" + ticks + ")", RefusedTest::full, x -> told(x.shift(ticks)), REFUSED);
        }
        Twins.Calls edge = x -> Due.read(x, 2, Due.packed(5, 9, "a") + Due.packed(6, 8, "b"));
        Twins.unchanged("shift(-6)", edge, x -> told(x.shift(-6)), REFUSED);
        Twins.unchanged("shift to one beyond LAST", edge, x -> told(x.shift(last - 8)), REFUSED);
    }

    private static void merges() {
        for (int i : new int[] {-1, 15, 16, Integer.MIN_VALUE, Integer.MAX_VALUE}) {
            everywhere("merge(" + i + ")", x -> x.merge(i), BAD);
        }
        Twins.unchanged("merge(0) of none", RefusedTest::fresh, x -> x.merge(0), BAD);
        Twins.unchanged("merge(0) of one", x -> Due.read(x, 1, "{1}{2}a\n"), x -> x.merge(0), BAD);
        Twins.unchanged("merge(2) of three", RefusedTest::inUse, x -> x.merge(2), BAD);
        Twins.unchanged("merge(1), 71 bytes", RefusedTest::inUse, x -> x.merge(1), FULL);
        Twins.unchanged("merge(14), 69 bytes", RefusedTest::full, x -> x.merge(14), FULL);
        String half = Due.packed(1, 2, Due.times("y", 32));
        Twins.Calls two = x -> Due.read(x, 2, half + half);
        Twins.unchanged("merge(0), 65 bytes", two, x -> x.merge(0), FULL);
    }

    private static void splitsBad() {
        for (int far : FAR) {
            everywhere("split(" + far + ", 1)", x -> x.split(far, 1), BAD);
            everywhere("split(0, " + far + ")", x -> x.split(0, far), BAD);
        }
        everywhere("split(-1, 1)", x -> x.split(-1, 1), BAD);
        everywhere("split(16, 1)", x -> x.split(16, 1), BAD);
        everywhere("split(0, 0)", x -> x.split(0, 0), BAD);
        everywhere("split(0, 64)", x -> x.split(0, 64), BAD);
        // The first text of the one in use is a, 10, b, 10, c, d, and the next cue starts soon.
        Twins.unchanged("behind a 10", RefusedTest::inUse, x -> x.split(0, 2), BAD);
        Twins.Calls close = x -> Due.read(x, 1, "{0}{10}ab\n{4}{9}c\n");
        Twins.unchanged("the next one starts before", close, x -> x.split(0, 1), BAD);
        Twins.unchanged("no duration", x -> Due.read(x, 2, Due.packed(0, 1, "ab")), x -> x.split(0, 1), BAD);
        Twins.unchanged("no cells before", x -> Due.read(x, 2, Due.packed(0, 9, "\u00c0b")), x -> x.split(0, 1), BAD);
        Twins.unchanged("no cells behind", x -> Due.read(x, 2, Due.packed(0, 9, "b\u00c0")), x -> x.split(0, 1), BAD);
    }

    private static void splitsFull() {
        Twins.unchanged("split(15, 30)", RefusedTest::full, x -> x.split(15, 30), FULL);
        Twins.unchanged("split(15, 62)", RefusedTest::full, x -> x.split(15, 62), FULL);
        Twins.unchanged("behind a 10, of a full one", RefusedTest::full, x -> x.split(15, 63), BAD);
    }

    private static void undo() {
        Twins.unchanged("undo of a new one", RefusedTest::fresh, x -> told(x.undo()), REFUSED);
        Twins.Calls allBack = x -> {
            full(x);
            for (int k = 0; k < 10; k++) x.undo();
        };
        Twins.unchanged("undo when none of the latest ten is left", allBack, x -> told(x.undo()), REFUSED);
        Twins.Calls settings = x -> {
            x.rate(50, 1);
            x.rules(1, 2, 3, 4);
            x.shot(5);
            Due.fill(x, "abc");
        };
        Twins.unchanged("undo of what is no change", settings, x -> told(x.undo()), REFUSED);
    }

    /** cues, cue, text, at and clash only answer. */
    private static void questionsChangeNothing() {
        everywhere("questions", x -> {
            long seen = x.at(0) + x.cues() + x.cue(0, 0) + x.cue(99, 99) + x.text(0, 0) + x.text(-5, 7) + x.clash();
            return seen == Long.MIN_VALUE ? 1 : 0;
        }, 0);
    }
}
