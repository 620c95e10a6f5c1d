/** Promises 17 to 19: merge, split, clash. */
public final class JoinTest {
    private static final long LAST = CueBench.LAST;

    public static void main(String[] args) {
        merges();
        mergesRefused();
        splits();
        splitTimes();
        splitsRefused();
        splitsOfSixteen();
        clashes();
        Due.end();
    }

    private static CueBench with(String packed) {
        CueBench x = new CueBench();
        Due.read(x, 2, packed);
        return x;
    }

    private static void merges() {
        String four = Due.packed(1, 50, "a\nb") + Due.packed(2, 9, "c") + Due.packed(3, 60, "d") + Due.packed(70, 80, "e");
        CueBench x = with(four);
        Due.is("the first end is later", x.merge(0), 3);
        Due.is("the first end is later", Due.cues(x), "1 50 a\nb\nc/3 60 d/70 80 e/");
        Due.is("the second end is later", x.merge(0), 2);
        Due.is("the second end is later", Due.cues(x), "1 60 a\nb\nc\nd/70 80 e/");
        Due.is("undo", x.undo() && x.undo(), true);
        Due.is("undo", Due.cues(x), "1 50 a\nb/2 9 c/3 60 d/70 80 e/");
        Due.is("the last two", x.merge(2), 3);
        Due.is("the last two", Due.cues(x), "1 50 a\nb/2 9 c/3 80 d\ne/");
    }

    private static void mergesRefused() {
        CueBench x = new CueBench();
        Due.is("without cues", x.merge(0), CueBench.BAD);
        Due.read(x, 2, Due.packed(1, 2, Due.times("a", 40)) + Due.packed(1, 2, Due.times("b", 23))
            + Due.packed(1, 2, Due.times("c", 41)));
        for (int i : new int[] {-1, 2, 3, Integer.MIN_VALUE, Integer.MAX_VALUE}) {
            Due.is("merge(" + i + ")", x.merge(i), CueBench.BAD);
        }
        Due.is("65 bytes", x.merge(1), CueBench.FULL);
        Due.is("64 bytes", x.merge(0), 2);
        Due.is("64 bytes", Due.text(x, 0), Due.times("a", 40) + "\n" + Due.times("b", 23));
        Due.is("too many", x.merge(0), CueBench.FULL);
        Due.is("changes", x.undo() && x.undo() && !x.undo(), true);
    }

    private static void splits() {
        CueBench x = with(Due.packed(0, 50, "q") + Due.packed(100, 200, "ab\ncd e") + Due.packed(300, 400, "r"));
        Due.is("before a 10", x.split(1, 2), 4);
        Due.is("before a 10", Due.cues(x), "0 50 q/100 133 ab/133 200 cd e/300 400 r/");
        x.undo();
        Due.is("behind a 10", x.split(1, 3), CueBench.BAD);
        Due.is("within a line", x.split(1, 1), 4);
        Due.is("within a line", Due.cues(x), "0 50 q/100 117 a/117 200 b\ncd e/300 400 r/");
        Due.is("again", x.split(2, 3), 5);
        Due.is("again", Due.cues(x), "0 50 q/100 117 a/117 150 b\nc/150 200 d e/300 400 r/");
        x.undo();
        x.undo();
        Due.is("before the last", x.split(1, 6), 4);
        Due.is("before the last", Due.cues(x), "0 50 q/100 183 ab\ncd /183 200 e/300 400 r/");
        Due.is("joined again", x.merge(1), 3);
        Due.is("joined again", Due.text(x, 1), "ab\ncd \ne");
    }

    private static void splitTime(long start, long end, String text, int j, long want) {
        CueBench x = with(Due.packed(start, end, text));
        Due.is("split of " + start + " " + end + " " + Due.shown(text), x.split(0, j), want == CueBench.BAD ? want : 2);
        if (want == CueBench.BAD) return;
        Due.is("end of the first part of " + start + " " + end + " " + Due.shown(text), x.cue(0, 1), want);
        Due.is("start of the second part", x.cue(1, 0), want);
        Due.is("start of the first part", x.cue(0, 0), start);
        Due.is("end of the second part", x.cue(1, 1), end);
    }

    private static void splitTimes() {
        splitTime(0, 4, "ab", 1, 2);
        splitTime(0, 3, "ab", 1, 2);
        splitTime(0, 5, "ab", 1, 2);
        splitTime(1, 4, "ab", 1, 2);
        splitTime(1, 6, "ab", 1, 4);
        splitTime(3, 6, "ab", 1, 4);
        splitTime(0, 9, "a\u0080", 1, 3);
        splitTime(0, 9, "\u0080a", 1, 6);
        splitTime(0, 5, "\u00c0\u00c0\u00c0", 1, 2);
        splitTime(1, 8, "\u00c0\u00c0\u00c0", 2, 4);
        splitTime(0, 2, "ab", 1, 1);
        splitTime(0, 1, "ab", 1, CueBench.BAD);
        splitTime(1, 2, "ab", 1, CueBench.BAD);
        splitTime(0, 9, "\u00c0a", 1, CueBench.BAD);
        splitTime(0, 9, "a\u00c0", 1, CueBench.BAD);
        splitTime(0, 4, Due.times("a", 10), 1, CueBench.BAD);
        splitTime(0, 4, Due.times("a", 10), 9, CueBench.BAD);
        splitTime(0, 4, Due.times("a", 10), 2, 1);
        splitTime(0, LAST, Due.times("\u0080", 64), 63, LAST / 64 * 63);
        splitTime(LAST - 3, LAST, "abc", 2, LAST - 1);
    }

    private static void splitsRefused() {
        CueBench x = new CueBench();
        Due.is("without cues", x.split(0, 1), CueBench.BAD);
        Due.read(x, 2, Due.packed(0, 100, "abcd") + Due.packed(50, 60, "e"));
        for (int i : new int[] {-1, 2, Integer.MIN_VALUE, Integer.MAX_VALUE}) {
            Due.is("split(" + i + ", 1)", x.split(i, 1), CueBench.BAD);
            Due.is("split(0, " + i + ")", x.split(0, i == 2 ? 4 : i), CueBench.BAD);
        }
        Due.is("split(0, 0)", x.split(0, 0), CueBench.BAD);
        Due.is("one byte", x.split(1, 1), CueBench.BAD);
        Due.is("one byte", x.split(1, 0), CueBench.BAD);
        Due.is("no byte left, and no cells", with(Due.packed(0, 100, "\u00c0\u00c0")).split(0, 2), CueBench.BAD);
        Due.is("behind the next start", x.split(0, 3), CueBench.BAD);
        Due.is("just at the next start", x.split(0, 2), 3);
        Due.is("just at the next start", Due.cues(x), "0 50 ab/50 100 cd/50 60 e/");
        Due.is("changes", x.undo() && x.undo() && !x.undo(), true);
    }

    private static void splitsOfSixteen() {
        CueBench x = with(Due.times(Due.packed(1, 9, "a\nb"), 15));
        Due.is("to 16", x.split(14, 1), 16);
        Due.is("bad before full", x.split(0, 2), CueBench.BAD);
        Due.is("bad before full", x.split(0, 1), CueBench.BAD);
        Due.is("bad before full", x.split(16, 1), CueBench.BAD);
        Due.is("no text left", x.split(15, 1), CueBench.BAD);
        x = with(Due.times(Due.packed(1, 2, "a"), 15) + Due.packed(1, 9, "bc"));
        Due.is("full", x.split(15, 1), CueBench.FULL);
        Due.is("cues stay", x.cues(), 16);
        Due.is("no change", x.undo() && !x.undo(), true);
    }

    private static void clash(String what, String packed, int want) {
        Due.is("clash of " + what, with(packed).clash(), want);
    }

    private static void clashes() {
        clash("none", "", CueBench.NONE);
        clash("one", Due.packed(1, 5, "a"), CueBench.NONE);
        clash("two that touch", Due.packed(1, 5, "a") + Due.packed(5, 6, "b"), CueBench.NONE);
        clash("two that overlap", Due.packed(1, 5, "a") + Due.packed(4, 6, "b"), 0);
        clash("the later ones", Due.packed(1, 2, "a") + Due.packed(4, 7, "b") + Due.packed(6, 8, "c"), 1);
        clash("both", Due.packed(1, 5, "a") + Due.packed(4, 7, "b") + Due.packed(6, 8, "c"), 0);
        clash("equal starts", Due.packed(4, 5, "a") + Due.packed(4, 5, "b"), 0);
    }
}
