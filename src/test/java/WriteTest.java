/** Promises 7 to 10: write, cues, cue, text. */
public final class WriteTest {
    public static void main(String[] args) {
        forms();
        nearestEven();
        limits();
        digits();
        parts();
        Due.end();
    }

    private static void written(String what, CueBench x, int form, String want) {
        Due.is(what, x.write(form), want.length());
        Due.is(what, Due.buffer(x), want);
    }

    private static void forms() {
        CueBench x = new CueBench();
        for (int form : new int[] {-1, 3, Integer.MIN_VALUE, Integer.MAX_VALUE}) {
            x.put(65, 1);
            Due.is("write(" + form + ")", x.write(form), CueBench.BAD);
            Due.is("the buffer stays", x.at(0), 65);
        }
        written("no cues", x, 0, "");
        long end = CueBench.LAST;
        Due.read(x, 2, Due.packed(0, 28224000, "a\nb") + Due.packed(62345L * 705600, end, "c d\u0080"));
        written("block", x, 0, "00:00:00,000 > 00:00:00,040\na\nb\n\n00:01:02,345 > 01:00:00,000\nc d\u0080\n\n");
        written("frames", x, 1, "{0}{1}a|b\n{1559}{90000}c d\u0080\n");
        written("packed", x, 2, Due.packed(0, 28224000, "a\nb") + Due.packed(62345L * 705600, end, "c d\u0080"));
        Due.is("writing is no change", x.undo() && !x.undo(), true);
        x.rate(60, 1);
        Due.read(x, 2, Due.packed(end - 1, end, "z"));
        written("six digits", x, 1, "{216000}{216000}z\n");
    }

    private static void nearestEven() {
        CueBench x = new CueBench();
        String half = Due.packed(352800, 3 * 352800, "a") + Due.packed(352801, 3 * 352800 - 1, "b");
        Due.read(x, 2, half + Due.packed(5 * 352800, 5 * 352800 + 1, "c"));
        String block = "00:00:00,000 > 00:00:00,002\na\n\n00:00:00,001 > 00:00:00,001\nb\n\n";
        written("thousandths", x, 0, block + "00:00:00,002 > 00:00:00,003\nc\n\n");
        long f = 14112000;
        Due.read(x, 2, Due.packed(f, 3 * f, "a") + Due.packed(f + 1, 3 * f - 1, "b") + Due.packed(5 * f, 7 * f, "c"));
        written("frames", x, 1, "{0}{2}a\n{1}{1}b\n{2}{4}c\n");
    }

    private static void limits() {
        CueBench x = new CueBench();
        String cue = Due.packed(1, 2, Due.times("y", 49));
        Due.is("read", Due.read(x, 2, Due.times(cue, 12)), 12);
        Due.is("948 bytes", x.write(0), 12 * 79);
        String bytes = Due.times(cue, 12) + Due.packed(1, 2, Due.times("z", 22));
        Due.is("read", Due.read(x, 2, bytes), 13);
        Due.is("1000 bytes", x.write(0), 1000);
        Due.is("at(999)", x.at(999), 10);
        bytes = Due.times(cue, 12) + Due.packed(1, 2, Due.times("z", 23));
        Due.is("read", Due.read(x, 2, bytes), 13);
        Due.is("1001 bytes", x.write(0), CueBench.FULL);
        Due.is("the buffer stays", Due.buffer(x), bytes);
        Due.is("packed", x.write(2), bytes.length());
        fullFrames();
        fullPacked();
    }

    /** 15 cues of 64 bytes and more are too many; 13 of 75 and one of 25 are just 1000. */
    private static void fullFrames() {
        CueBench x = new CueBench();
        String cue = "{1000}{2000}" + Due.times("y", 62) + "\n";
        String bytes = Due.times(cue, 13) + "{1000}{2000}" + Due.times("z", 12) + "\n";
        Due.is("read", Due.read(x, 1, bytes), 14);
        written("1000 bytes", x, 1, bytes);
        x.rate(50, 1);
        x.rate(60, 1);
        Due.is("the same digits", x.write(1), 1000);
        Due.is("shift", x.shift(7000L * 28224000), true);
        Due.is("more digits", x.write(1), CueBench.FULL);
        Due.is("the buffer stays", x.at(999), 10);
    }

    private static void fullPacked() {
        CueBench x = new CueBench();
        String cue = "{1}{2}" + Due.times("y", 64) + "\n";
        Due.read(x, 1, Due.times(cue, 12) + cue.replace("yy\n", "y\n"));
        Due.is("1000 bytes", x.write(2), 1000);
        Due.read(x, 1, Due.times(cue, 13));
        Due.is("1001 bytes", x.write(2), CueBench.FULL);
        Due.is("the buffer stays", Due.buffer(x), Due.times(cue, 13));
    }

    private static void digits() {
        CueBench x = new CueBench();
        x.rate(60, 1);
        int[] frames = {1, 9, 10, 99, 100, 999, 1000, 9999, 10000, 99999, 100000, 216000};
        for (int k = 0; k < frames.length; k += 2) {
            String bytes = "{" + frames[k] + "}{" + frames[k + 1] + "}a\n";
            Due.is("read", Due.read(x, 1, bytes), 1);
            written("digits", x, 1, bytes);
        }
    }

    private static void parts() {
        CueBench x = new CueBench();
        Due.is("cue of none", x.cue(0, 0), CueBench.NONE);
        Due.is("text of none", x.text(0, 0), CueBench.NONE);
        String text = "a \n~\n\u0080\u00bf\u00c0\u00ff{";
        Due.read(x, 2, Due.packed(7, 9, text) + Due.packed(8, 10, "\u00c0"));
        Due.is("cues", x.cues(), 2);
        Due.is("start", x.cue(0, 0), 7);
        Due.is("end", x.cue(0, 1), 9);
        Due.is("bytes", x.cue(0, 2), 10);
        Due.is("lines", x.cue(0, 3), 3);
        Due.is("cells", x.cue(0, 4), 8);
        Due.is("cells", x.cue(1, 4), 0);
        Due.is("lines", x.cue(1, 3), 1);
        for (int what : new int[] {-1, 5, Integer.MIN_VALUE, Integer.MAX_VALUE}) {
            Due.is("what " + what, x.cue(0, what), CueBench.NONE);
        }
        for (int i : new int[] {-1, 2, Integer.MIN_VALUE, Integer.MAX_VALUE}) {
            Due.is("cue " + i, x.cue(i, 0), CueBench.NONE);
            Due.is("text " + i, x.text(i, 0), CueBench.NONE);
            Due.is("text 0, " + i, x.text(0, i == 2 ? 10 : i), CueBench.NONE);
        }
        for (int j = 0; j < 10; j++) Due.is("text 0, " + j, x.text(0, j), text.charAt(j));
        Due.is("text 1", x.text(1, 0), 192);
        Due.is("text 1", x.text(1, 1), CueBench.NONE);
    }
}
