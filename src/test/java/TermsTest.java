/** The Terms, sentence by sentence, at their edges: times, rate, nearest, texts, cells, cues, buffer. */
public final class TermsTest {
    private static final long LAST = CueBench.LAST;
    private static final int BLOCK = CueBench.BLOCK, FRAMES = CueBench.FRAMES, PACKED = CueBench.PACKED;

    public static void main(String[] args) {
        timesAreFromZeroToLast();
        lastInFramesOfEveryRate();
        theFirstRate();
        nearestThousandths();
        nearestFrames();
        nearestOfOddFrames();
        bytesOfAText();
        bytesOfALaterLine();
        sizeOfAText();
        noLineIsEmpty();
        cellsOfEveryByte();
        cellsOfAText();
        atMostSixteenCues();
        anEndIsGreater();
        noStartFalls();
        theBufferHoldsThousand();
        fiveHundredAndTwelveCalls();
        Due.end();
    }

    /** "TIMES are whole TICKS, 705600000 to a second, from 0 to LAST, which is one hour." */
    private static void timesAreFromZeroToLast() {
        Due.is("LAST", LAST, 3600 * 705600000L);
        CueBench x = Due.with(PACKED, Due.packed(0, LAST, "a"));
        Due.is("the least start", x.cue(0, 0), 0);
        Due.is("the greatest end", x.cue(0, 1), LAST);
        Due.taken(PACKED, Due.packed(0, 1, "a"), 1);
        Due.taken(PACKED, Due.packed(LAST - 1, LAST, "a"), 1);
        Due.fault(PACKED, Due.packed(0, LAST + 1, "a"), 0);
        Due.fault(PACKED, Due.packed(LAST, LAST + 1, "a"), 0);
        Due.fault(PACKED, Due.packed(LAST + 1, LAST + 2, "a"), 0);
        x = Due.with(BLOCK, "00:00:00,000 > 01:00:00,000\na\n\n");
        Due.is("an hour", x.cue(0, 1), LAST);
        Due.fault(BLOCK, "00:00:00,000 > 01:00:00,001\na\n\n", 0);
        Due.taken(BLOCK, "00:59:59,999 > 01:00:00,000\na\n\n", 1);
        Due.fault(BLOCK, "01:00:00,000 > 01:00:00,001\na\n\n", 0);
    }

    private static void lastInFramesOfEveryRate() {
        int[][] rates = {{25, 1, 90000}, {60, 1, 216000}, {1, 1, 3600}, {24000, 1001, 86313}, {60000, 1001, 215784}};
        for (int[] rate : rates) {
            CueBench x = new CueBench();
            Due.is("rate", x.rate(rate[0], rate[1]), true);
            Due.is("last frame", Due.read(x, FRAMES, "{0}{" + rate[2] + "}a\n"), 1);
            Due.is("beyond LAST", Due.read(x, FRAMES, "{0}{" + (rate[2] + 1) + "}a\n"), -10);
        }
    }

    /** "The RATE is num / den frames a second, at first 25 / 1" */
    private static void theFirstRate() {
        CueBench x = Due.with(FRAMES, "{1}{25}a\n");
        Due.is("a frame", x.cue(0, 0), 28224000);
        Due.is("25 frames", x.cue(0, 1), 705600000);
    }

    /** "The NEAREST whole number to a fraction: of two that are as near, the even one." */
    private static void nearestThousandths() {
        for (int k = 0; k < 6; k++) {
            long half = k * 705600L + 352800;
            int even = k + k % 2;
            thousandths(half - 1, k);
            thousandths(half, even);
            thousandths(half + 1, k + 1);
        }
    }

    private static void thousandths(long time, int want) {
        CueBench x = Due.with(PACKED, Due.packed(time, LAST, "a"));
        x.write(BLOCK);
        Due.is("thousandths of " + time, Due.buffer(x).substring(9, 12), "00" + want);
    }

    private static void nearestFrames() {
        for (int k = 0; k < 6; k++) {
            long half = k * 28224000L + 14112000;
            frame(25, 1, half - 1, k);
            frame(25, 1, half, k + k % 2);
            frame(25, 1, half + 1, k + 1);
            half = k * 29429400L + 14714700;
            frame(24000, 1001, half - 1, k);
            frame(24000, 1001, half, k + k % 2);
            frame(24000, 1001, half + 1, k + 1);
        }
    }

    /** At 512 / 11 a frame is an odd number of ticks, so that no time is just between two frames. */
    private static void nearestOfOddFrames() {
        long ticks = 15159375;
        for (int k = 0; k < 4; k++) {
            frame(512, 11, k * ticks + ticks / 2, k);
            frame(512, 11, k * ticks + ticks / 2 + 1, k + 1);
        }
    }

    private static void frame(int num, int den, long time, int want) {
        CueBench x = Due.with(PACKED, Due.packed(time, LAST, "a"));
        Due.is("rate", x.rate(num, den), true);
        x.write(FRAMES);
        Due.is("frame of " + time, Due.buffer(x).substring(0, 3), "{" + want + "}");
    }

    private static boolean mayBeInALine(int b) {
        return b >= 32 && b <= 126 && b != 124 || b >= 128;
    }

    /** "each 10 or one of 32 .. 126 and 128 .. 255, but not 124": every byte as a text, first with a byte behind it. */
    private static void bytesOfAText() {
        for (int form = 0; form < 3; form++) {
            int t = Due.before(form, 1, 2);
            for (int b = 0; b < 256; b++) {
                // In FRAMES a 124 stands for a 10 and a 10 ends the cue; neither may be the first byte.
                String text = "" + (char) b;
                if (mayBeInALine(b)) Due.taken(form, Due.cue(form, 1, 2, text), 1);
                else Due.fault(form, Due.cue(form, 1, 2, text), t);
                if (mayBeInALine(b)) Due.taken(form, Due.cue(form, 1, 2, text + "a"), 1);
                else Due.fault(form, Due.cue(form, 1, 2, text + "a"), t);
            }
        }
    }

    private static void bytesOfALaterLine() {
        for (int form = 0; form < 3; form++) {
            int t = Due.before(form, 1, 2);
            for (int b = 0; b < 256; b++) {
                if (b == 10 || form == FRAMES && b == 124) continue;
                String bytes = Due.cue(form, 1, 2, "a\n" + (char) b + "c");
                if (!mayBeInALine(b)) {
                    Due.fault(form, bytes, t + 2);
                    continue;
                }
                CueBench x = Due.with(form, bytes);
                Due.is("byte of a text", x.text(0, 2), b);
                Due.is("lines", x.cue(0, 3), 2);
            }
        }
    }

    /** "A TEXT is 1 to 64 bytes" */
    private static void sizeOfAText() {
        for (int form = 0; form < 3; form++) {
            int t = Due.before(form, 1, 2);
            for (int size = 1; size <= 64; size++) {
                CueBench x = Due.with(form, Due.cue(form, 1, 2, Due.times("y", size)));
                Due.is("bytes", x.cue(0, 2), size);
            }
            Due.fault(form, Due.cue(form, 1, 2, ""), form == PACKED ? 12 : t);
            Due.fault(form, Due.cue(form, 1, 2, Due.times("y", 65)), form == PACKED ? 12 : t + 64);
            Due.taken(form, Due.cue(form, 1, 2, Due.times("y\n", 31) + "yz"), 1);
        }
    }

    /** "The bytes 10 part its LINES, none of which is empty." */
    private static void noLineIsEmpty() {
        for (int form = 0; form < 3; form++) {
            int t = Due.before(form, 1, 2);
            Due.is("lines", Due.with(form, Due.cue(form, 1, 2, "a")).cue(0, 3), 1);
            Due.is("lines", Due.with(form, Due.cue(form, 1, 2, "a\nb")).cue(0, 3), 2);
            Due.is("lines", Due.with(form, Due.cue(form, 1, 2, Due.times("a\n", 31) + "b")).cue(0, 3), 32);
            Due.fault(form, Due.cue(form, 1, 2, "\na"), t);
        }
        // In BLOCK the second 10 ends the cue, so that the byte behind it is no hour.
        Due.fault(BLOCK, Due.cue(BLOCK, 1, 2, "a\n\nb"), Due.before(BLOCK, 1, 2) + 3);
        Due.fault(FRAMES, Due.cue(FRAMES, 1, 2, "a\n\nb"), Due.before(FRAMES, 1, 2) + 2);
        Due.fault(PACKED, Due.cue(PACKED, 1, 2, "a\n\nb"), Due.before(PACKED, 1, 2) + 2);
        Due.fault(BLOCK, Due.cue(BLOCK, 1, 2, "a\n"), Due.before(BLOCK, 1, 2) + 3);
        Due.fault(FRAMES, Due.cue(FRAMES, 1, 2, "a\n"), Due.before(FRAMES, 1, 2) + 2);
        Due.fault(PACKED, Due.cue(PACKED, 1, 2, "a\n"), Due.before(PACKED, 1, 2) + 1);
    }

    /** "A byte of 32 .. 126 has one CELL, one of 128 .. 191 two, all others none." */
    private static void cellsOfEveryByte() {
        for (int b = 32; b < 256; b++) {
            if (!mayBeInALine(b)) continue;
            int want = b <= 126 ? 1 : b <= 191 ? 2 : 0;
            CueBench x = Due.with(PACKED, Due.packed(1, 2, "" + (char) b));
            Due.is("cells of " + b, x.cue(0, 4), want);
        }
    }

    private static void cellsOfAText() {
        Due.is("a 10 has none", Due.with(PACKED, Due.packed(1, 2, "a\nb\nc")).cue(0, 4), 3);
        Due.is("the most", Due.with(PACKED, Due.packed(1, 2, Due.times("\u00bf", 64))).cue(0, 4), 128);
        Due.is("the least", Due.with(PACKED, Due.packed(1, 2, Due.times("\u00c0", 64))).cue(0, 4), 0);
        Due.is("all kinds", Due.with(PACKED, Due.packed(1, 2, " ~\u0080\u00bf\u00c0\u00ff")).cue(0, 4), 6);
    }

    /** "CUES are numbered 0, 1, .., at most 16, at first none." */
    private static void atMostSixteenCues() {
        Due.is("cues at first", new CueBench().cues(), 0);
        for (int form = 0; form < 3; form++) {
            String one = Due.cue(form, 1, 2, "a");
            for (int n = 1; n <= 16; n++) {
                CueBench x = Due.with(form, Due.times(one, n));
                Due.is("cues", x.cues(), n);
                Due.is("the last one's end", x.cue(n - 1, 1), 1411200000L);
                Due.is("none behind it", x.cue(n, 1), CueBench.NONE);
            }
            Due.fault(form, Due.times(one, 17), 16 * one.length());
            Due.fault(form, Due.times(one, 18), 16 * one.length());
        }
    }

    /** "A cue has a START, an END that is greater" */
    private static void anEndIsGreater() {
        for (int form = 0; form < 3; form++) {
            Due.taken(form, Due.cue(form, 1, 2, "a"), 1);
            Due.fault(form, Due.cue(form, 2, 2, "a"), 0);
            Due.fault(form, Due.cue(form, 2, 1, "a"), 0);
            Due.fault(form, Due.cue(form, 0, 0, "a"), 0);
        }
        Due.taken(PACKED, Due.packed(7, 8, "a"), 1);
        Due.taken(FRAMES, "{7}{8}a\n", 1);
        Due.taken(BLOCK, "00:00:00,007 > 00:00:00,008\na\n\n", 1);
    }

    /** "no cue starts before the one with the number before" */
    private static void noStartFalls() {
        for (int form = 0; form < 3; form++) {
            String first = Due.cue(form, 5, 9, "a");
            Due.taken(form, first + Due.cue(form, 5, 6, "b"), 2);
            Due.taken(form, first + Due.cue(form, 6, 7, "b"), 2);
            Due.fault(form, first + Due.cue(form, 4, 10, "b"), first.length());
            // The one just before counts, not the first of all.
            String second = Due.cue(form, 7, 8, "b");
            Due.fault(form, first + second + Due.cue(form, 6, 9, "c"), first.length() + second.length());
        }
        String first = Due.packed(5, 9, "a");
        Due.fault(PACKED, first + Due.packed(4, 9, "b"), first.length());
        Due.taken(PACKED, first + Due.packed(5, 9, "b"), 2);
    }

    /** "THE BUFFER is a row of at most 1000 bytes, at first none." */
    private static void theBufferHoldsThousand() {
        CueBench x = new CueBench();
        Due.is("at first", x.wipe(), 0);
        for (int k = 0; k < 125; k++) Due.is("put", x.put(0x0807060504030201L * (k % 2 + 1), 8), 8 * k + 8);
        Due.is("one more", x.put(1, 1), CueBench.FULL);
        for (int i = 0; i < 300; i++) Due.is("at", x.at(i), (i % 8 + 1) * (i / 8 % 2 + 1));
        Due.is("the last", x.at(999), 8);
        Due.is("none behind", x.at(1000), CueBench.NONE);
        Due.is("wipe", x.wipe(), 1000);
    }

    /** "An object is used for at most 512 calls after it has been made": the last ones are as good as the first. */
    private static void fiveHundredAndTwelveCalls() {
        CueBench x = new CueBench();
        Due.fill(x, Due.packed(0, 5, "ab"));
        Due.is("read", x.read(PACKED), 1);
        int made = 1 + 2 + 1;
        for (; made < 500; made++) Due.is("shift", x.shift(3), true);
        for (; made < 510; made++) Due.is("undo", x.undo(), true);
        Due.is("the 511th", x.undo(), false);
        Due.is("the 512th", x.cue(0, 0), (500 - 4 - 10) * 3);
    }
}
