/** Promises 14 to 19, sentence by sentence, at their edges: breakLines, twoPoint, shift, merge, split, clash. */
public final class CueEdgesTest {
    private static final int NONE = CueBench.NONE, BAD = CueBench.BAD, FULL = CueBench.FULL;
    private static final int FRAMES = CueBench.FRAMES, PACKED = CueBench.PACKED;
    private static final long LAST = CueBench.LAST, FRAME = 28224000;
    private static final int[] FAR = Due.FAR;

    public static void main(String[] args) {
        atMostTwentyEightCells();
        eachLineAtMostTwentyEight();
        eachLineAtLeastAByte();
        hyphensAndSixtyFourBytes();
        leastDifference();
        secondLineHasMore();
        firstOfSeveral();
        breakLinesOfNoCue();
        breakLinesOfTheLastPlace();
        pointsFromZeroToLast();
        pointsThatDoNotRise();
        mappedTimesFromZeroToLast();
        mappedEndsAreGreater();
        mappedToTheNearest();
        mapsOfSixteenAndOfNone();
        shiftsFromZeroToLast();
        shiftsOfSixteenAndOfNone();
        mergesOfNoCue();
        mergesOfSixtyFourBytes();
        laterOneOfBothEnds();
        mergesAtBothEndsOfTheRow();
        splitsOfNoCue();
        splitsBeforeEveryByte();
        splitsAtTens();
        splitsByCells();
        splitsByHalves();
        splitPartsThatDoNotLast();
        splitsAndTheNextStart();
        splitsOfFifteenAndSixteen();
        clashes();
        clashesOfNoneAndOne();
        Due.end();
    }

    private static String y(int n) {
        return Due.times("y", n);
    }

    private static void breaks(String text, int want, String then) {
        CueBench x = Due.with(PACKED, Due.packed(1, 2, text));
        Due.is("breakLines of " + Due.shown(text), x.breakLines(0), want);
        Due.is("then " + Due.shown(text) + " is", Due.text(x, 0), then);
    }

    private static void stays(String text) {
        breaks(text, NONE, text);
    }

    /** "Takes the bytes 10 of a text for blanks, .. when it has at most 28 cells, it is one line (1 is answered)" */
    private static void atMostTwentyEightCells() {
        breaks("y", 1, "y");
        breaks(y(28), 1, y(28));
        stays(y(29));
        breaks(y(14) + " " + y(13), 1, y(14) + " " + y(13));
        breaks(y(14) + "\n" + y(13), 1, y(14) + " " + y(13));
        breaks(y(14) + "\n" + y(14), 2, y(14) + "\n" + y(14));
        breaks(Due.times("y\n", 14) + "\u00c0", 1, Due.times("y ", 14) + "\u00c0");
        breaks(Due.times("y\n", 14) + "y", 2, "y y y y y y y\n" + "y y y y y y y y");
        breaks(Due.times("\u00bf", 14), 1, Due.times("\u00bf", 14));
        stays(Due.times("\u00bf", 14) + "y");
        stays(Due.times("\u0080", 15));
        breaks(Due.times("\u00c0", 64), 1, Due.times("\u00c0", 64));
        breaks(y(28) + Due.times("\u00ff", 36), 1, y(28) + Due.times("\u00ff", 36));
    }

    /** "otherwise two, each of at most 28 cells" */
    private static void eachLineAtMostTwentyEight() {
        breaks(y(28) + " " + y(28), 2, y(28) + "\n" + y(28));
        stays(y(29) + " " + y(28));
        stays(y(28) + " " + y(29));
        breaks(y(27) + "-" + y(28), 2, y(27) + "-\n" + y(28));
        stays(y(28) + "-" + y(28));
        stays(y(27) + "-" + y(29));
        String wide = Due.times("\u0080", 14);
        breaks(wide + " " + wide, 2, wide + "\n" + wide);
        stays(wide + "\u00c0y " + y(2));
        breaks(y(28) + "\u00c0 \u00c0" + y(28), 2, y(28) + "\u00c0\n\u00c0" + y(28));
        // Three lines were fine before, but two can not hold as many cells.
        stays(y(20) + "\n" + y(20) + "\n" + y(20));
        breaks(y(18) + "\n" + y(9) + "\n" + y(28), 2, y(18) + " " + y(9) + "\n" + y(28));
        stays(y(19) + "\n" + y(9) + "\n" + y(28));
    }

    /** "and of at least one byte" */
    private static void eachLineAtLeastAByte() {
        stays(" " + y(28));
        stays(y(28) + " ");
        stays(y(28) + "-");
        breaks("y " + y(28), 2, "y\n" + y(28));
        breaks(y(28) + " y", 2, y(28) + "\ny");
        breaks("  " + y(28), 2, " \n" + y(28));
        breaks(y(28) + "  ", 2, y(28) + "\n ");
        breaks("-" + y(28), 2, "-\n" + y(28));
        breaks(y(27) + "-y", 2, y(27) + "-\ny");
        breaks(y(27) + "--", 2, y(27) + "-\n-");
    }

    /** "behind a hyphen (45), where a 10 is put between, if the text has fewer than 64 bytes" */
    private static void hyphensAndSixtyFourBytes() {
        String thin = Due.times("\u00c0", 64);
        String text = y(20) + "-" + y(20);
        breaks(text + thin.substring(42), 2, y(20) + "-\n" + y(20) + thin.substring(42));
        stays(text + thin.substring(41));
        // A blank is there for a text of 64 bytes too.
        text = y(20) + " " + y(20);
        breaks(text + thin.substring(41), 2, y(20) + "\n" + y(20) + thin.substring(41));
        text = y(14) + " " + y(10) + "-" + y(20);
        breaks(text + thin.substring(47), 2, y(14) + " " + y(10) + "-\n" + y(20) + thin.substring(47));
        stays(text + thin.substring(46));
        // 44 and 46 are no hyphens.
        stays(y(20) + "," + y(20));
        stays(y(20) + "." + y(20));
        stays(y(20) + "\u00ad" + y(20));
    }

    /** "Of all such breaks that with the least difference of the lines' cells" */
    private static void leastDifference() {
        breaks(y(10) + " " + y(8) + " " + y(11), 2, y(10) + " " + y(8) + "\n" + y(11));
        breaks(y(13) + " y " + y(15), 2, y(13) + " y\n" + y(15));
        breaks(y(15) + " y " + y(13), 2, y(15) + "\ny " + y(13));
        breaks(y(14) + "- " + y(15), 2, y(14) + "-\n" + y(15));
        breaks(y(14) + "- " + y(14), 2, y(14) + "-\n " + y(14));
        breaks("\u0080 " + y(13) + " " + y(14), 2, "\u0080 " + y(13) + "\n" + y(14));
    }

    /** "of several that whose second line has more cells" */
    private static void secondLineHasMore() {
        breaks(y(14) + " y " + y(14), 2, y(14) + "\ny " + y(14));
        breaks(y(14) + "\ny\n" + y(14), 2, y(14) + "\ny " + y(14));
        breaks(y(13) + "--" + y(14), 2, y(13) + "-\n-" + y(14));
        breaks(y(12) + " \u00bf " + y(12) + "\u00c0", 1, y(12) + " \u00bf " + y(12) + "\u00c0");
        breaks(y(13) + " \u00bf " + y(13), 2, y(13) + "\n\u00bf " + y(13));
    }

    /** "of several the first one" */
    private static void firstOfSeveral() {
        breaks(y(14) + "-\u00c0\u00c0-" + y(15), 2, y(14) + "-\n\u00c0\u00c0-" + y(15));
        breaks(y(15) + "\u00c0-\u00c0" + y(13), 2, y(15) + "\u00c0-\n\u00c0" + y(13));
    }

    /** "BAD, refused, when there is no such cue" */
    private static void breakLinesOfNoCue() {
        CueBench x = new CueBench();
        for (int i = -1; i <= 1; i++) Due.is("breakLines(" + i + ") of none", x.breakLines(i), BAD);
        Due.read(x, PACKED, Due.times(Due.packed(1, 2, "a\nb"), 16));
        Due.is("breakLines(-1)", x.breakLines(-1), BAD);
        Due.is("breakLines(16)", x.breakLines(16), BAD);
        for (int far : FAR) Due.is("breakLines(" + far + ")", x.breakLines(far), BAD);
        for (int i = 0; i < 16; i++) {
            Due.is("breakLines(" + i + ")", x.breakLines(i), 1);
            Due.is("its lines", x.cue(i, 3), 1);
            Due.is("the next one's lines", x.cue(i + 1, 3), i < 15 ? 2 : NONE);
        }
    }

    /** The last cue of 16 with 64 bytes, and one that becomes 64 bytes long by its break. */
    private static void breakLinesOfTheLastPlace() {
        String others = Due.times(Due.packed(1, 2, "a\nb"), 15);
        String thin = Due.times("\u00c0", 64);
        CueBench x = Due.with(PACKED, others + Due.packed(1, 2, y(20) + "\n" + y(20) + thin.substring(41)));
        Due.is("64 bytes", x.breakLines(15), 2);
        Due.is("64 bytes", Due.text(x, 15), y(20) + "\n" + y(20) + thin.substring(41));
        x = Due.with(PACKED, others + Due.packed(1, 2, thin));
        Due.is("64 bytes without cells", x.breakLines(15), 1);
        Due.is("64 bytes without cells", Due.text(x, 15), thin);
        x = Due.with(PACKED, others + Due.packed(1, 2, y(20) + "-" + y(20) + thin.substring(42)));
        Due.is("63 bytes", x.breakLines(15), 2);
        Due.is("64 bytes then", x.cue(15, 2), 64);
        Due.is("64 bytes then", Due.text(x, 15), y(20) + "-\n" + y(20) + thin.substring(42));
        Due.is("the one before", Due.text(x, 14), "a\nb");
    }

    private static void maps(CueBench x, int a, int a2, int b, int b2, boolean want) {
        String before = Due.cues(x);
        String call = "twoPoint(" + a + ", " + a2 + ", " + b + ", " + b2 + ") of " + Due.shown(before);
        Due.is(call, x.twoPoint(a, a2, b, b2), want);
        if (!want) Due.is("cues stay", Due.cues(x), before);
    }

    /** "false, refused, when one of the four is below 0 or beyond LAST" */
    private static void pointsFromZeroToLast() {
        int[][] rates = {{25, 1, 90000}, {60, 1, 216000}, {1, 1, 3600}, {24000, 1001, 86313}, {60000, 1001, 215784}};
        for (int[] rate : rates) {
            CueBench x = new CueBench();
            x.rate(rate[0], rate[1]);
            int last = rate[2];
            maps(x, 0, 0, last, last, true);
            maps(x, last, last, 0, 0, true);
            maps(x, -1, 0, last, last, false);
            maps(x, 0, -1, last, last, false);
            maps(x, last, last, -1, 0, false);
            maps(x, last, last, 0, -1, false);
            maps(x, 0, 0, last + 1, last, false);
            maps(x, 0, 0, last, last + 1, false);
            maps(x, last + 1, last, 0, 0, false);
            maps(x, last, last + 1, 0, 0, false);
        }
        CueBench x = new CueBench();
        for (int far : FAR) {
            maps(x, far, 0, 5, 5, false);
            maps(x, 0, far, 5, 5, false);
            maps(x, 5, 5, far, 0, false);
            maps(x, 5, 5, 0, far, false);
        }
    }

    /** "a = b, the map does not rise" */
    private static void pointsThatDoNotRise() {
        CueBench x = new CueBench();
        maps(x, 5, 5, 5, 5, false);
        maps(x, 5, 4, 5, 6, false);
        maps(x, 5, 6, 5, 4, false);
        maps(x, 0, 0, 0, 1, false);
        maps(x, 5, 7, 6, 7, false);
        maps(x, 6, 7, 5, 7, false);
        maps(x, 5, 7, 6, 6, false);
        maps(x, 6, 6, 5, 7, false);
        maps(x, 5, 6, 6, 7, true);
        maps(x, 6, 7, 5, 6, true);
    }

    /** "a time would come below 0 or beyond LAST" */
    private static void mappedTimesFromZeroToLast() {
        maps(Due.with(FRAMES, "{10}{20}a\n"), 10, 0, 11, 1, true);
        maps(Due.with(FRAMES, "{10}{20}a\n"), 11, 0, 12, 1, false);
        maps(Due.with(FRAMES, "{10}{20}a\n{10}{21}b\n"), 20, 89999, 21, 90000, true);
        maps(Due.with(FRAMES, "{10}{20}a\n{10}{22}b\n"), 20, 89999, 21, 90000, false);
        maps(Due.with(FRAMES, "{10}{22}a\n{10}{20}b\n"), 20, 89999, 21, 90000, false);
        // Half a frame below 0 is nearest to 0, of which -1 is as near; a tick more is nearest to -1.
        CueBench x = Due.with(PACKED, Due.packed(FRAME / 2, 9 * FRAME, "a"));
        maps(x, 1, 0, 2, 1, true);
        Due.is("then", Due.frames(x), "0 8");
        maps(Due.with(PACKED, Due.packed(FRAME / 2 - 1, 9 * FRAME, "a")), 1, 0, 2, 1, false);
        // Half a frame beyond LAST is nearest to LAST, whose frame is even.
        x = Due.with(PACKED, Due.packed(0, 3 * FRAME / 2, "a"));
        maps(x, 0, 89999, 1, 90000, true);
        Due.is("then", Due.frames(x), "89999 90000");
        maps(Due.with(PACKED, Due.packed(0, 3 * FRAME / 2 + 1, "a")), 0, 89999, 1, 90000, false);
        // The frame that is nearest to LAST is beyond it at this rate.
        x = Due.with(PACKED, Due.packed(0, LAST, "a"));
        x.rate(24000, 1001);
        maps(x, 0, 0, 1, 1, false);
        x = Due.with(PACKED, Due.packed(0, 86313 * 29429400L + 14714699, "a"));
        x.rate(24000, 1001);
        maps(x, 0, 0, 1, 1, true);
    }

    /** "or a cue would end no later than it starts" */
    private static void mappedEndsAreGreater() {
        maps(Due.with(FRAMES, "{0}{2}a\n"), 0, 0, 2, 1, true);
        maps(Due.with(FRAMES, "{0}{1}a\n"), 0, 0, 2, 1, false);
        maps(Due.with(FRAMES, "{1}{2}a\n"), 0, 0, 2, 1, true);
        maps(Due.with(FRAMES, "{2}{3}a\n"), 0, 0, 2, 1, true);
        maps(Due.with(FRAMES, "{3}{4}a\n"), 0, 0, 2, 1, false);
        maps(Due.with(FRAMES, "{0}{9}a\n{3}{4}a\n"), 0, 0, 2, 1, false);
        maps(Due.with(PACKED, Due.packed(0, FRAME / 2, "a")), 0, 0, 1, 1, false);
        maps(Due.with(PACKED, Due.packed(0, FRAME / 2 + 1, "a")), 0, 0, 1, 1, true);
    }

    private static void mappedToTheNearest() {
        CueBench x = Due.with(FRAMES, "{1}{3}a\n{5}{7}b\n{9}{11}c\n");
        maps(x, 0, 0, 2, 1, true);
        Due.is("halves", Due.frames(x), "0 2 2 4 4 6");
        x = Due.with(FRAMES, "{1}{3}a\n{5}{7}b\n{9}{11}c\n");
        maps(x, 2, 1, 0, 0, true);
        Due.is("halves, the points in the other order", Due.frames(x), "0 2 2 4 4 6");
        x = Due.with(FRAMES, "{1}{4}a\n");
        maps(x, 0, 0, 3, 1, true);
        Due.is("thirds", Due.frames(x), "0 1");
        x = Due.with(PACKED, Due.packed(0, LAST, "a"));
        maps(x, 0, 0, 90000, 1, true);
        Due.is("the greatest fall", Due.frames(x), "0 1");
        maps(x, 0, 0, 1, 90000, true);
        Due.is("the greatest rise", Due.frames(x), "0 90000");
        x.rate(60, 1);
        maps(x, 216000, 1, 0, 0, true);
        Due.is("the greatest fall of all", x.cue(0, 1), 11760000);
        maps(x, 0, 0, 1, 216000, true);
        Due.is("the greatest rise of all", x.cue(0, 1), LAST);
        maps(x, 215999, 0, 216000, 216000, false);
    }

    private static void mapsOfSixteenAndOfNone() {
        CueBench x = new CueBench();
        maps(x, 0, 0, 1, 90000, true);
        Due.is("a change", x.undo(), true);
        x = Due.with(FRAMES, Due.times("{1}{2}a\n", 16));
        maps(x, 0, 0, 1, 5, true);
        for (int i = 0; i < 16; i++) {
            Due.is("start", x.cue(i, 0), 5 * FRAME);
            Due.is("end", x.cue(i, 1), 10 * FRAME);
        }
        // The last one alone is what refuses.
        maps(Due.with(FRAMES, Due.times("{1}{2}a\n", 15) + "{1}{3}b\n"), 0, 0, 1, 30001, false);
        maps(Due.with(FRAMES, Due.times("{1}{2}a\n", 15) + "{1}{3}b\n"), 0, 0, 1, 30000, true);
    }

    private static void shifts(CueBench x, long ticks, boolean want) {
        String before = Due.cues(x);
        Due.is("shift(" + ticks + ") of " + Due.shown(before), x.shift(ticks), want);
        if (!want) Due.is("cues stay", Due.cues(x), before);
    }

    /** "refused, when one would come below 0 or beyond LAST (or ticks is beyond -LAST .. LAST)" */
    private static void shiftsFromZeroToLast() {
        shifts(Due.with(PACKED, Due.packed(5, 9, "a")), -5, true);
        shifts(Due.with(PACKED, Due.packed(5, 9, "a")), -6, false);
        shifts(Due.with(PACKED, Due.packed(5, 9, "a")), LAST - 9, true);
        shifts(Due.with(PACKED, Due.packed(5, 9, "a")), LAST - 8, false);
        // The first cue ends last here.
        shifts(Due.with(PACKED, Due.packed(5, 9, "a") + Due.packed(6, 7, "b")), LAST - 9, true);
        shifts(Due.with(PACKED, Due.packed(5, 9, "a") + Due.packed(6, 7, "b")), LAST - 8, false);
        shifts(Due.with(PACKED, Due.packed(LAST - 1, LAST, "a")), 1 - LAST, true);
        shifts(Due.with(PACKED, Due.packed(LAST - 1, LAST, "a")), -LAST, false);
        shifts(Due.with(PACKED, Due.packed(0, LAST, "a")), 0, true);
        shifts(Due.with(PACKED, Due.packed(0, LAST, "a")), 1, false);
        shifts(Due.with(PACKED, Due.packed(0, LAST, "a")), -1, false);
        shifts(Due.with(PACKED, Due.packed(0, 1, "a")), LAST, false);
        shifts(Due.with(PACKED, Due.packed(0, 1, "a")), LAST - 1, true);
        for (long far : new long[] {LAST + 1, -LAST - 1, Long.MIN_VALUE, Long.MIN_VALUE + 1, Long.MAX_VALUE}) {
            shifts(Due.with(PACKED, Due.packed(5, 9, "a")), far, false);
            shifts(new CueBench(), far, false);
        }
    }

    private static void shiftsOfSixteenAndOfNone() {
        CueBench x = new CueBench();
        shifts(x, LAST, true);
        shifts(x, -LAST, true);
        Due.is("two changes", x.undo() && x.undo() && !x.undo(), true);
        x = Due.with(PACKED, Due.times(Due.packed(5, 9, "a"), 16));
        shifts(x, 3, true);
        for (int i = 0; i < 16; i++) {
            Due.is("start", x.cue(i, 0), 8);
            Due.is("end", x.cue(i, 1), 12);
        }
        shifts(Due.with(PACKED, Due.times(Due.packed(5, 9, "a"), 15) + Due.packed(5, 10, "b")), LAST - 9, false);
    }

    /** "BAD, refused, when there is no such cue or none behind it" */
    private static void mergesOfNoCue() {
        CueBench x = new CueBench();
        for (int i = -1; i <= 1; i++) Due.is("merge(" + i + ") of none", x.merge(i), BAD);
        Due.read(x, PACKED, Due.packed(1, 2, "a"));
        for (int i = -1; i <= 1; i++) Due.is("merge(" + i + ") of one", x.merge(i), BAD);
        Due.read(x, PACKED, Due.times(Due.packed(1, 2, "a"), 16));
        Due.is("merge(-1)", x.merge(-1), BAD);
        Due.is("merge(15)", x.merge(15), BAD);
        Due.is("merge(16)", x.merge(16), BAD);
        for (int far : FAR) Due.is("merge(" + far + ")", x.merge(far), BAD);
        Due.is("merge(14)", x.merge(14), 15);
        Due.is("merge(14) then", x.merge(14), BAD);
        Due.is("merge(0)", x.merge(0), 14);
    }

    /** "FULL, refused, when the text would have more than 64 bytes" */
    private static void mergesOfSixtyFourBytes() {
        for (int first : new int[] {1, 2, 31, 32, 61, 62}) {
            CueBench x = Due.with(PACKED, Due.packed(1, 2, y(first)) + Due.packed(1, 2, Due.times("z", 63 - first)));
            Due.is("64 bytes", x.merge(0), 1);
            Due.is("64 bytes", Due.text(x, 0), y(first) + "\n" + Due.times("z", 63 - first));
            x = Due.with(PACKED, Due.packed(1, 2, y(first)) + Due.packed(1, 2, Due.times("z", 64 - first)));
            Due.is("65 bytes", x.merge(0), FULL);
            Due.is("the texts stay", Due.text(x, 0) + Due.text(x, 1), y(first) + Due.times("z", 64 - first));
        }
        CueBench x = Due.with(PACKED, Due.packed(1, 2, y(64)) + Due.packed(1, 2, "z"));
        Due.is("66 bytes", x.merge(0), FULL);
        x = Due.with(PACKED, Due.packed(1, 2, y(64)) + Due.packed(1, 2, y(64)));
        Due.is("129 bytes", x.merge(0), FULL);
        Due.is("BAD, whatever it has", x.merge(1), BAD);
    }

    /** "from the start of the first to the later one of both ends" */
    private static void laterOneOfBothEnds() {
        long[][] ends = {{9, 8, 9}, {9, 9, 9}, {9, 10, 10}, {9, LAST, LAST}, {LAST, 9, LAST}};
        for (long[] e : ends) {
            CueBench x = Due.with(PACKED, Due.packed(3, e[0], "a") + Due.packed(5, e[1], "b"));
            Due.is("merge", x.merge(0), 1);
            Due.is("merged", Due.cues(x), "3 " + e[2] + " a\nb/");
        }
    }

    private static void mergesAtBothEndsOfTheRow() {
        StringBuilder all = new StringBuilder();
        for (int i = 0; i < 16; i++) all.append(Due.packed(i, i + 1, "" + (char) ('a' + i)));
        CueBench x = Due.with(PACKED, all.toString());
        Due.is("the last two", x.merge(14), 15);
        Due.is("the first two", x.merge(0), 14);
        Due.is("the first one", Due.text(x, 0), "a\nb");
        for (int i = 1; i < 13; i++) Due.is("the others", Due.text(x, i), "" + (char) ('b' + i));
        Due.is("the last one", Due.text(x, 13), "o\np");
        Due.is("none behind", x.cue(14, 0), NONE);
    }

    /** "BAD, refused, when there is no such cue, j is not 1 .. the number of its bytes less 1" */
    private static void splitsOfNoCue() {
        CueBench x = new CueBench();
        for (int i = -1; i <= 1; i++) Due.is("split(" + i + ", 1) of none", x.split(i, 1), BAD);
        Due.read(x, PACKED, Due.packed(0, 100, "ab") + Due.packed(200, 300, "c"));
        for (int i : new int[] {-1, 2}) Due.is("split(" + i + ", 1)", x.split(i, 1), BAD);
        for (int j = -1; j <= 2; j++) Due.is("split(1, " + j + ") of one byte", x.split(1, j), BAD);
        for (int far : FAR) {
            Due.is("split(" + far + ", 1)", x.split(far, 1), BAD);
            Due.is("split(0, " + far + ")", x.split(0, far), BAD);
        }
        for (int j : new int[] {-1, 0, 2, 3}) Due.is("split(0, " + j + ")", x.split(0, j), BAD);
        Due.is("split(0, 1)", x.split(0, 1), 3);
    }

    private static void splitsBeforeEveryByte() {
        String text = Due.times("abcdefgh", 8);
        for (int j = -1; j <= 65; j++) {
            CueBench x = Due.with(PACKED, Due.packed(0, 6400, text));
            boolean good = j >= 1 && j <= 63;
            Due.is("split(0, " + j + ")", x.split(0, j), good ? 2 : BAD);
            String then = "0 " + 100 * j + " " + text.substring(0, good ? j : 0) + "/" + 100 * j + " 6400 "
                + text.substring(good ? j : 0) + "/";
            Due.is("then", Due.cues(x), good ? then : "0 6400 " + text + "/");
        }
    }

    /** "before byte j of its text (which is left out if it is a 10)", "one part would be no text (byte j - 1 is 10)" */
    private static void splitsAtTens() {
        String before = Due.packed(0, 400, "a\nb\ncd");
        String[] due = {"a/b\ncd", "", "a\nb/cd", "", "a\nb\nc/d"};
        for (int j = 1; j <= 5; j++) {
            CueBench x = Due.with(PACKED, before);
            boolean good = !due[j - 1].isEmpty();
            Due.is("split(0, " + j + ")", x.split(0, j), good ? 2 : BAD);
            Due.is("then", Due.text(x, 0) + (good ? "/" + Due.text(x, 1) : ""), good ? due[j - 1] : "a\nb\ncd");
        }
    }

    private static void parts(long start, long end, String text, int j, long want) {
        CueBench x = Due.with(PACKED, Due.packed(start, end, text));
        String call = "split(0, " + j + ") of " + start + " " + end + " " + Due.shown(text);
        Due.is(call, x.split(0, j), want == BAD ? BAD : 2);
        Due.is("first end of " + call, x.cue(0, 1), want == BAD ? end : want);
        Due.is("second start of " + call, x.cue(1, 0), want == BAD ? NONE : want);
        Due.is("second end of " + call, x.cue(1, 1), want == BAD ? NONE : end);
    }

    /** "both parts share its time by their cells .. at the nearest tick to its start and that part of its duration" */
    private static void splitsByCells() {
        parts(0, 10, "ab", 1, 5);
        parts(0, 9, "ab", 1, 4);
        parts(0, 11, "ab", 1, 6);
        parts(1, 10, "ab", 1, 6);
        parts(1, 12, "ab", 1, 6);
        parts(1, 14, "ab", 1, 8);
        parts(0, 10, "abc", 1, 3);
        parts(0, 10, "abc", 2, 7);
        parts(0, 11, "abc", 1, 4);
        parts(0, 12, "\u0080a", 1, 8);
        parts(0, 12, "a\u00bf", 1, 4);
        parts(0, 12, "a\n\u00bf", 1, 4);
        parts(0, 12, "a\u00c0\n\u00c0b", 2, 6);
        parts(LAST - 12, LAST, "ab", 1, LAST - 6);
        parts(0, LAST, Due.times("\u00bf", 64), 63, LAST / 64 * 63);
        parts(LAST - 3, LAST, Due.times("\u00bf", 64), 21, LAST - 2);
    }

    /** "(when there are none, by halves)" */
    private static void splitsByHalves() {
        parts(0, 10, "\u00c0\u00c0\u00c0", 1, 5);
        parts(0, 10, "\u00c0\u00c0\u00c0", 2, 5);
        parts(0, 10, "\u00c0\n\u00c0\u00ff", 1, 5);
        parts(0, 11, "\u00c0\u00c0", 1, 6);
        parts(1, 12, "\u00c0\u00c0", 1, 6);
        parts(0, 2, "\u00c0\u00c0", 1, 1);
        parts(0, 1, "\u00c0\u00c0", 1, BAD);
    }

    /** "or not end later than it starts" */
    private static void splitPartsThatDoNotLast() {
        parts(0, 10, "\u00c0a", 1, BAD);
        parts(0, 10, "a\u00c0", 1, BAD);
        parts(0, 10, "\u00c0\na", 1, BAD);
        parts(0, 1, "ab", 1, BAD);
        parts(1, 2, "ab", 1, BAD);
        parts(0, 2, "ab", 1, 1);
        parts(0, 5, y(10), 1, BAD);
        parts(0, 6, y(10), 1, 1);
        parts(1, 6, y(10), 1, 2);
        parts(0, 5, y(10), 9, 4);
        parts(1, 6, y(10), 9, BAD);
        parts(0, 4, y(10), 9, BAD);
    }

    /** "or the next cue starts before the second part" */
    private static void splitsAndTheNextStart() {
        for (int next = 48; next <= 52; next++) {
            CueBench x = Due.with(PACKED, Due.packed(0, 100, "ab") + Due.packed(next, 200, "c"));
            Due.is("split with the next start at " + next, x.split(0, 1), next < 50 ? BAD : 3);
            Due.is("cues then", x.cues(), next < 50 ? 2 : 3);
        }
        CueBench x = Due.with(PACKED, Due.packed(0, 100, "ab") + Due.packed(0, 100, "cd"));
        Due.is("the last one has no next", x.split(1, 1), 3);
        Due.is("then", Due.cues(x), "0 100 ab/0 50 c/50 100 d/");
    }

    /** "FULL, refused, when there are 16 cues" */
    private static void splitsOfFifteenAndSixteen() {
        for (int i : new int[] {0, 7, 14}) {
            StringBuilder all = new StringBuilder();
            for (int k = 0; k < 15; k++) all.append(Due.packed(100 * k, 100 * k + 100, y(k == i ? 64 : 2)));
            CueBench x = Due.with(PACKED, all.toString());
            Due.is("split of 15", x.split(i, 32), 16);
            Due.is("the parts", Due.text(x, i) + "/" + Due.text(x, i + 1), y(32) + "/" + y(32));
            Due.is("the last one", x.cue(15, 1), 1500);
            String before = Due.cues(x);
            Due.is("split of 16", x.split(0, 1), FULL);
            Due.is("split of 16", x.split(15, 1), FULL);
            Due.is("what is BAD is BAD, full or not", x.split(16, 1), BAD);
            Due.is("what is BAD is BAD, full or not", x.split(0, 0), BAD);
            Due.is("cues stay", Due.cues(x), before);
        }
    }

    /** "The least number of a cue that does not end before, or when, all later ones start" */
    private static void clashes() {
        for (int end = 98; end <= 102; end++) {
            CueBench x = Due.with(PACKED, Due.packed(0, end, "a") + Due.packed(100, 200, "b"));
            Due.is("clash with an end at " + end, x.clash(), end <= 100 ? NONE : 0);
        }
        CueBench x = Due.with(PACKED, Due.packed(0, 9, "a") + Due.packed(10, 50, "b") + Due.packed(20, 40, "c")
            + Due.packed(30, 60, "d"));
        Due.is("the least of two", x.clash(), 1);
        x = Due.with(PACKED, Due.packed(0, 99, "a") + Due.packed(10, 20, "b") + Due.packed(20, 30, "c"));
        Due.is("one that lasts over all", x.clash(), 0);
        for (int i = 0; i < 15; i++) {
            StringBuilder all = new StringBuilder();
            for (int k = 0; k < 16; k++) all.append(Due.packed(10 * k, 10 * k + (k == i ? 11 : 10), "a"));
            Due.is("clash of " + i + " alone", Due.with(PACKED, all.toString()).clash(), i);
        }
    }

    /** "NONE when there is none" */
    private static void clashesOfNoneAndOne() {
        Due.is("without cues", new CueBench().clash(), NONE);
        Due.is("one", Due.with(PACKED, Due.packed(0, LAST, "a")).clash(), NONE);
        CueBench x = Due.with(PACKED, Due.packed(0, 9, "a") + Due.packed(5, 7, "b"));
        Due.is("two", x.clash(), 0);
        x.merge(0);
        Due.is("joined to one", x.clash(), NONE);
        x.undo();
        Due.is("taken back", x.clash(), 0);
    }
}
