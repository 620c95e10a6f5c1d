/** Promises 15 and 16: twoPoint and shift. */
public final class TimesTest {
    private static final long FRAME = 28224000;

    public static void main(String[] args) {
        maps();
        nearestEven();
        mapsRefused();
        mapsOutOfRange();
        shifts();
        Due.end();
    }

    private static CueBench with(String frames) {
        CueBench x = new CueBench();
        Due.read(x, 1, frames);
        return x;
    }

    private static void maps() {
        CueBench x = with("{10}{110}a\n{60}{70}b\n");
        Due.is("stretched", x.twoPoint(10, 20, 110, 320), true);
        Due.is("stretched", Due.frames(x), "20 320 170 200");
        Due.is("the points in the other order", x.twoPoint(320, 110, 20, 10), true);
        Due.is("the points in the other order", Due.frames(x), "10 110 60 70");
        Due.is("a change each", x.undo() && x.undo() && x.undo() && !x.undo(), true);
        Due.is("without cues", x.twoPoint(0, 0, 1, 90000), true);
        Due.is("a change without cues", x.undo(), true);
        Due.read(x, 2, Due.packed(3, FRAME + 1, "a"));
        Due.is("onto frames", x.twoPoint(5, 5, 6, 6), true);
        Due.is("onto frames", Due.cues(x), "0 28224000 a/");
        Due.is("to the edges", x.twoPoint(0, 0, 1, 90000), true);
        Due.is("to the edges", Due.cues(x), "0 2540160000000 a/");
        Due.is("and back", x.twoPoint(0, 0, 90000, 1), true);
        Due.is("and back", Due.cues(x), "0 28224000 a/");
    }

    private static void nearestEven() {
        CueBench x = with("{1}{3}a\n{5}{7}b\n");
        Due.is("halves", x.twoPoint(0, 0, 2, 1), true);
        Due.is("halves", Due.frames(x), "0 2 2 4");
        x = with("{0}{9}a\n");
        Due.is("a little below 0 is nearest to 0", x.twoPoint(1, 0, 3, 1), true);
        Due.is("half below 0", Due.frames(x), "0 4");
        x = new CueBench();
        Due.read(x, 2, Due.packed(FRAME / 2, 5 * FRAME / 2, "a"));
        Due.is("fractions of frames", x.twoPoint(0, 0, 1, 3), true);
        Due.is("fractions of frames", Due.frames(x), "2 8");
    }

    private static void mapsRefused() {
        CueBench x = with("{10}{110}a\n");
        int[][] wrong = {
            {-1, 0, 5, 5}, {0, -1, 5, 5}, {0, 0, -5, 5}, {0, 0, 5, -5}, {90001, 0, 0, 5}, {0, 0, 90001, 5},
            {0, 0, 5, 90001}, {5, 90001, 0, 0}, {5, 5, 5, 5}, {5, 4, 5, 6}, {5, 5, 6, 5}, {5, 6, 6, 5}, {6, 5, 5, 6},
            {Integer.MIN_VALUE, 0, 5, 5}, {0, 0, Integer.MAX_VALUE, 5}, {0, 0, 5, Integer.MAX_VALUE},
            {Integer.MAX_VALUE, Integer.MAX_VALUE, 0, 0}, {0, 0, 220, 1}, {11, 0, 12, 1}, {0, 0, 1, 900}
        };
        for (int[] w : wrong) {
            String call = "twoPoint(" + w[0] + ", " + w[1] + ", " + w[2] + ", " + w[3] + ")";
            Due.is(call, x.twoPoint(w[0], w[1], w[2], w[3]), false);
        }
        Due.is("cues stay", Due.frames(x), "10 110");
        Due.is("no change", x.undo() && !x.undo(), true);
        Due.is("too far without cues", x.twoPoint(0, 0, 1, 90001), false);
    }

    private static void mapsOutOfRange() {
        CueBench x = with("{10}{110}a\n");
        Due.is("to -0.5", x.twoPoint(11, 0, 13, 1), true);
        Due.is("to -0.5", Due.frames(x), "0 50");
        x = with("{10}{110}a\n");
        Due.is("to -1", x.twoPoint(11, 0, 12, 1), false);
        Due.is("just to LAST", x.twoPoint(10, 0, 110, 90000), true);
        Due.is("just to LAST", Due.frames(x), "0 90000");
        x = with("{10}{111}a\n");
        Due.is("beyond LAST", x.twoPoint(10, 0, 110, 90000), false);
        // At 24000 / 1001 an hour is 86313 frames and a part of one.
        x = new CueBench();
        x.rate(24000, 1001);
        Due.is("86313", x.twoPoint(0, 0, 86313, 86313), true);
        Due.is("86314", x.twoPoint(0, 0, 86314, 86314), false);
        Due.read(x, 2, Due.packed(1, CueBench.LAST, "a"));
        Due.is("LAST is nearest to frame 86314, beyond it", x.twoPoint(0, 0, 1, 1), false);
        x.rate(60000, 1001);
        Due.is("LAST is nearest to frame 215784, before it", x.twoPoint(0, 0, 1, 1), true);
        Due.is("end", x.cue(0, 1), 215784 * 11771760L);
    }

    private static void shifts() {
        CueBench x = new CueBench();
        Due.is("without cues", x.shift(CueBench.LAST), true);
        Due.is("without cues", x.shift(-CueBench.LAST), true);
        Due.is("beyond", x.shift(CueBench.LAST + 1), false);
        Due.is("beyond", x.shift(-CueBench.LAST - 1), false);
        Due.is("beyond", x.shift(Long.MAX_VALUE), false);
        Due.is("beyond", x.shift(Long.MIN_VALUE), false);
        Due.is("two changes", x.undo() && x.undo() && !x.undo(), true);
        Due.read(x, 2, Due.packed(5, 900, "a") + Due.packed(7, 9, "b"));
        Due.is("-6", x.shift(-6), false);
        Due.is("-5", x.shift(-5), true);
        Due.is("-5", Due.cues(x), "0 895 a/2 4 b/");
        Due.is("0", x.shift(0), true);
        Due.is("one too many", x.shift(CueBench.LAST - 894), false);
        Due.is("to LAST", x.shift(CueBench.LAST - 895), true);
        Due.is("to LAST", Due.cues(x), "2540159999105 2540160000000 a/2540159999107 2540159999109 b/");
        Due.is("changes", x.undo() && x.undo(), true);
        Due.is("shift(0) was one", Due.cues(x), "0 895 a/2 4 b/");
        Due.is("changes", x.undo(), true);
        Due.is("back", Due.cues(x), "5 900 a/7 9 b/");
    }
}
