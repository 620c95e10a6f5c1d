/** Promises 2 to 5 and 7 to 12, sentence by sentence, at their edges: buffer, rate, write, cues, shots and rules. */
public final class BufferEdgesTest {
    private static final int NONE = CueBench.NONE, BAD = CueBench.BAD, FULL = CueBench.FULL;
    private static final int[] FAR = Due.FAR;

    public static void main(String[] args) {
        putFromOneToEight();
        putTheLowestFirst();
        putWhenThereIsJustRoom();
        wipeOfEveryFullness();
        atEveryPlace();
        rateOfOneToSixty();
        rateOfWholeFrames();
        numAndDen();
        formsToWrite();
        writeOfThousand();
        writeOfNone();
        writeOfFewerThanBefore();
        cuesFromNoneToSixteen();
        cueOfEveryNumber();
        textOfEveryPlace();
        shotFrames();
        twentyShots();
        rulesAtTheirLimits();
        Due.end();
    }

    /** "BAD when n is not 1 .. 8" */
    private static void putFromOneToEight() {
        for (int n = -3; n <= 12; n++) {
            CueBench x = new CueBench();
            boolean good = n >= 1 && n <= 8;
            Due.is("put(5, " + n + ")", x.put(5, n), good ? n : BAD);
            Due.is("bytes then", x.wipe(), good ? n : 0);
        }
        CueBench x = new CueBench();
        for (int n : FAR) Due.is("put(5, " + n + ")", x.put(5, n), BAD);
        Due.is("none was put", x.at(0), NONE);
    }

    /** "Puts the n lowest of eight bytes behind the buffer, the lowest one first" */
    private static void putTheLowestFirst() {
        for (int n = 1; n <= 8; n++) {
            CueBench x = new CueBench();
            x.put(0xf9, 1);
            Due.is("put", x.put(0x80ff7f0102030400L, n), n + 1);
            int[] due = {0xf9, 0, 4, 3, 2, 1, 0x7f, 0xff, 0x80};
            for (int i = 0; i <= 8; i++) Due.is("at(" + i + ") of " + n, x.at(i), i <= n ? due[i] : NONE);
        }
    }

    /** "FULL when there is no room for them" */
    private static void putWhenThereIsJustRoom() {
        for (int room = 0; room <= 8; room++) {
            for (int n = 1; n <= 8; n++) {
                CueBench x = new CueBench();
                Due.fill(x, Due.times("z", 1000 - room));
                Due.is("put of " + n + " where " + room + " go", x.put(-1, n), n <= room ? 1000 - room + n : FULL);
                Due.is("the first", x.at(1000 - room), n <= room ? 255 : NONE);
                Due.is("none behind", x.at(n <= room ? 1000 - room + n : 1000 - room), NONE);
                Due.is("all", x.wipe(), n <= room ? 1000 - room + n : 1000 - room);
            }
        }
        CueBench x = new CueBench();
        Due.fill(x, Due.times("z", 1000));
        Due.is("no n is BAD, full or not", x.put(1, 0), BAD);
        Due.is("no n is BAD, full or not", x.put(1, 9), BAD);
    }

    /** "The buffer becomes empty: how many bytes it had." */
    private static void wipeOfEveryFullness() {
        for (int size : new int[] {0, 1, 7, 8, 9, 999, 1000}) {
            CueBench x = new CueBench();
            Due.fill(x, Due.times("z", size));
            Due.is("wipe", x.wipe(), size);
            Due.is("empty", x.at(0), NONE);
            Due.is("wipe again", x.wipe(), 0);
            Due.is("room for new ones", x.put(65, 1), 1);
        }
        CueBench x = Due.with(1, "{1}{2}a\n");
        x.wipe();
        Due.is("cues stay", x.cues(), 1);
    }

    /** "A byte of the buffer; NONE when there is none at this place." */
    private static void atEveryPlace() {
        CueBench x = new CueBench();
        Due.is("at(0) of none", x.at(0), NONE);
        Due.is("at(-1) of none", x.at(-1), NONE);
        x.put(0x4241, 2);
        Due.is("at(-1)", x.at(-1), NONE);
        Due.is("at(0)", x.at(0), 0x41);
        Due.is("at(1)", x.at(1), 0x42);
        Due.is("at(2)", x.at(2), NONE);
        for (int i : FAR) Due.is("at(" + i + ")", x.at(i), NONE);
        for (int b = 0; b < 256; b++) {
            x = new CueBench();
            x.put(b, 1);
            Due.is("byte", x.at(0), b);
        }
        x = new CueBench();
        Due.fill(x, Due.times("z", 1000));
        Due.is("at(999)", x.at(999), 'z');
        Due.is("at(1000)", x.at(1000), NONE);
        Due.is("at(-1)", x.at(-1), NONE);
    }

    private static void rate(int num, int den, boolean want) {
        CueBench x = new CueBench();
        Due.is("rate(" + num + ", " + den + ")", x.rate(num, den), want);
        Due.read(x, CueBench.FRAMES, "{1}{2}a\n");
        Due.is("a frame after it", x.cue(0, 0), want ? 705600000L * den / num : 28224000);
    }

    /** "or the rate less than 1 or more than 60" */
    private static void rateOfOneToSixty() {
        rate(1, 1, true);
        rate(60, 1, true);
        rate(1, 2, false);
        rate(63, 1, false);
        rate(64, 1, false);
        rate(1000, 1000, true);
        rate(999, 1000, false);
        rate(1000, 1001, false);
        rate(1001, 1001, true);
        rate(1008, 1001, true);
        rate(60000, 1000, true);
        rate(60000, 1001, true);
        rate(60000, 999, false);
        rate(60060, 1001, true);
        rate(120000, 1001, false);
        rate(60, 59, true);
        rate(56, 57, false);
    }

    /** "a frame would be no whole number of ticks" */
    private static void rateOfWholeFrames() {
        rate(11, 1, false);
        rate(11, 11, true);
        rate(11, 10, false);
        rate(22, 11, true);
        rate(13, 1, false);
        rate(512, 11, true);
        rate(1024, 17, false);
        rate(1024, 18, true);
        rate(27, 1, false);
        rate(27, 3, true);
        rate(49, 1, true);
        rate(343, 6, false);
        rate(343, 7, true);
    }

    /** "when num is not 1 .. 120000, den not 1 .. 1001" */
    private static void numAndDen() {
        rate(0, 1, false);
        rate(-1, 1, false);
        rate(-25, -1, false);
        rate(25, 0, false);
        rate(25, -1, false);
        rate(0, 0, false);
        rate(1001, 1001, true);
        rate(1002, 1002, false);
        rate(25000, 1001, true);
        rate(25200, 1008, false);
        rate(120000, 1000, false);
        rate(120001, 1001, false);
        rate(120000, 2000, false);
        for (int far : FAR) {
            rate(far, 1, false);
            rate(25, far, false);
            rate(far, far, false);
        }
    }

    /** "BAD when form is none of the three" */
    private static void formsToWrite() {
        CueBench x = Due.with(1, "{1}{2}a\n");
        Due.is("write(-1)", x.write(-1), BAD);
        Due.is("write(3)", x.write(3), BAD);
        for (int form : FAR) Due.is("write(" + form + ")", x.write(form), BAD);
        Due.is("the buffer stays", Due.buffer(x), "{1}{2}a\n");
        Due.is("write(0)", x.write(0), 31);
        Due.is("write(1)", x.write(1), 8);
        Due.is("write(2)", x.write(2), 14);
    }

    /** "FULL, refused, when they would be more than 1000": just 1000 and 1001 bytes in each form. */
    private static void writeOfThousand() {
        // 30 bytes beside the text, so 10 cues of 64 bytes and one of 30 are 1000.
        String cue = Due.packed(1, 2, Due.times("y", 64));
        writes(2, Due.times(cue, 10) + Due.packed(1, 2, Due.times("y", 30)), 0, 1000);
        writes(2, Due.times(cue, 10) + Due.packed(1, 2, Due.times("y", 31)), 0, FULL);
        // 13 beside the text: 12 cues of 64 bytes and one of 63.
        cue = "{0}{1}" + Due.times("y", 64) + "\n";
        writes(1, Due.times(cue, 12) + "{0}{1}" + Due.times("y", 63) + "\n", 2, 1000);
        writes(1, Due.times(cue, 13), 2, FULL);
        // 14 when the frames have four and five digits: 12 cues of 64 bytes and one of 50.
        long start = 9000 * 28224000L;
        long end = 10000 * 28224000L;
        String twelve = Due.times(Due.packed(start, end, Due.times("y", 64)), 12);
        writes(2, twelve + Due.packed(start, end, Due.times("y", 50)), 1, 1000);
        writes(2, twelve + Due.packed(start, end, Due.times("y", 51)), 1, FULL);
    }

    private static void writes(int from, String bytes, int to, int want) {
        CueBench x = Due.with(from, bytes);
        Due.is("write(" + to + ")", x.write(to), want);
        if (want == FULL) Due.is("the buffer stays", Due.buffer(x), bytes);
        else Due.is("bytes", x.wipe(), 1000);
    }

    private static void writeOfNone() {
        for (int form = 0; form < 3; form++) {
            CueBench x = new CueBench();
            x.put(65, 3);
            Due.is("write without cues", x.write(form), 0);
            Due.is("the buffer is empty", x.wipe(), 0);
        }
    }

    private static void writeOfFewerThanBefore() {
        CueBench x = Due.with(1, "{1}{2}a\n");
        Due.fill(x, Due.times("z", 1000));
        Due.is("write", x.write(1), 8);
        Due.is("the last", x.at(7), 10);
        Due.is("none behind", x.at(8), NONE);
        Due.is("put behind them", x.put(65, 1), 9);
    }

    /** "How many cues there are." */
    private static void cuesFromNoneToSixteen() {
        CueBench x = new CueBench();
        for (int n = 0; n <= 16; n++) {
            Due.is("read", Due.read(x, 1, Due.times("{1}{9}ab\n", n)), n);
            Due.is("cues", x.cues(), n);
        }
        for (int n = 15; n >= 8; n--) {
            Due.is("merge", x.merge(0), n);
            Due.is("cues", x.cues(), n);
        }
    }

    /** "NONE when there is no such cue, or what is none of these" */
    private static void cueOfEveryNumber() {
        CueBench x = new CueBench();
        for (int what = -1; what <= 5; what++) Due.is("of none", x.cue(0, what), NONE);
        Due.read(x, 2, Due.times(Due.packed(3, 7, "a\n\u0080"), 16));
        long[] due = {3, 7, 3, 2, 3};
        for (int i = -2; i <= 17; i++) {
            for (int what = -2; what <= 6; what++) {
                boolean is = i >= 0 && i < 16 && what >= 0 && what < 5;
                Due.is("cue(" + i + ", " + what + ")", x.cue(i, what), is ? due[what] : NONE);
            }
        }
        for (int far : FAR) {
            Due.is("cue(" + far + ", 0)", x.cue(far, 0), NONE);
            Due.is("cue(0, " + far + ")", x.cue(0, far), NONE);
            Due.is("cue(" + far + ", " + far + ")", x.cue(far, far), NONE);
        }
    }

    /** "Byte j of the text of a cue; NONE when there is none." */
    private static void textOfEveryPlace() {
        CueBench x = new CueBench();
        Due.is("of none", x.text(0, 0), NONE);
        String full = Due.times("xyz\n", 15) + "wxyz";
        Due.read(x, 2, Due.times(Due.packed(3, 7, "q"), 15) + Due.packed(3, 7, full));
        for (int j = -2; j <= 66; j++) {
            Due.is("text(15, " + j + ")", x.text(15, j), j >= 0 && j < 64 ? full.charAt(j) : NONE);
            Due.is("text(14, " + j + ")", x.text(14, j), j == 0 ? 'q' : NONE);
            Due.is("text(16, " + j + ")", x.text(16, j), NONE);
            Due.is("text(-1, " + j + ")", x.text(-1, j), NONE);
        }
        for (int far : FAR) {
            Due.is("text(" + far + ", 0)", x.text(far, 0), NONE);
            Due.is("text(0, " + far + ")", x.text(0, far), NONE);
            Due.is("text(" + far + ", " + far + ")", x.text(far, far), NONE);
        }
    }

    /** "BAD when frame is not 0 .. 216000" */
    private static void shotFrames() {
        CueBench x = new CueBench();
        Due.is("shot(-1)", x.shot(-1), BAD);
        Due.is("shot(216001)", x.shot(216001), BAD);
        for (int far : FAR) Due.is("shot(" + far + ")", x.shot(far), BAD);
        Due.is("shot(0)", x.shot(0), 1);
        Due.is("shot(216000)", x.shot(216000), 2);
    }

    /** "FULL when there are 20 and this is none of them. (One that is there is not added again.)" */
    private static void twentyShots() {
        CueBench x = new CueBench();
        for (int k = 1; k <= 20; k++) {
            Due.is("a new one", x.shot(7 * k), k);
            Due.is("the same again", x.shot(7 * k), k);
            Due.is("the first again", x.shot(7), k);
        }
        Due.is("the 21st", x.shot(8), FULL);
        Due.is("the 21st again", x.shot(8), FULL);
        for (int k = 1; k <= 20; k++) Due.is("one of the 20", x.shot(7 * k), 20);
        Due.is("a bad one is BAD, full or not", x.shot(-1), BAD);
        Due.is("a bad one is BAD, full or not", x.shot(216001), BAD);
    }

    private static void rules(int gap, int least, int most, int speed, boolean want) {
        String call = "rules(" + gap + ", " + least + ", " + most + ", " + speed + ")";
        Due.is(call, new CueBench().rules(gap, least, most, speed), want);
    }

    /** "when gap is not 0 .. 20, least not 1 .. 100, most not from least to 400, or speed not 1 .. 60" */
    private static void rulesAtTheirLimits() {
        for (int gap = -2; gap <= 22; gap++) rules(gap, 20, 168, 17, gap >= 0 && gap <= 20);
        for (int least = -1; least <= 102; least++) rules(2, least, 168, 17, least >= 1 && least <= 100);
        for (int most = 97; most <= 402; most++) rules(2, 100, most, 17, most >= 100 && most <= 400);
        for (int most = -1; most <= 3; most++) rules(2, 1, most, 17, most >= 1);
        for (int speed = -1; speed <= 62; speed++) rules(2, 20, 168, speed, speed >= 1 && speed <= 60);
        for (int far : FAR) {
            rules(far, 20, 168, 17, false);
            rules(2, far, 168, 17, false);
            rules(2, 20, far, 17, false);
            rules(2, 20, 168, far, false);
            rules(2, far, far, 17, false);
        }
    }
}
