/** Promise 14: breakLines. */
public final class BreakLinesTest {
    private static final String TEN = "abcdefghij";

    public static void main(String[] args) {
        oneLine();
        blanks();
        hyphens();
        whichIsBest();
        refused();
        Due.end();
    }

    private static void breaks(String text, int want, String then) {
        CueBench x = new CueBench();
        Due.read(x, 2, Due.packed(1, 2, "q") + Due.packed(1, 2, text) + Due.packed(1, 2, "r"));
        Due.is("breakLines of " + Due.shown(text), x.breakLines(1), want);
        Due.is("text after breakLines of " + Due.shown(text), Due.text(x, 1), then);
        Due.is("neighbours", Due.text(x, 0) + Due.text(x, 2), "qr");
        Due.is("lines", x.cue(1, 3), then.split("\n").length);
        if (want > 0) x.undo();
        Due.is("text taken back", Due.text(x, 1), text);
        Due.is("the read alone is left", x.undo() && !x.undo(), true);
    }

    private static void oneLine() {
        breaks("a", 1, "a");
        breaks("a\nb\nc", 1, "a b c");
        breaks(TEN + TEN + "abcdefgh", 1, TEN + TEN + "abcdefgh");
        breaks(TEN + TEN + "\nabcdefg", 1, TEN + TEN + " abcdefg");
        breaks(TEN + TEN + "\nabcdefgh", 2, TEN + TEN + "\nabcdefgh");
        breaks(Due.times("\u0080", 14), 1, Due.times("\u0080", 14));
        breaks(Due.times("\u00c0", 64), 1, Due.times("\u00c0", 64));
    }

    private static void blanks() {
        breaks(TEN + " " + TEN + " " + TEN, 2, TEN + "\n" + TEN + " " + TEN);
        breaks(TEN + "\n" + TEN + "\n" + TEN, 2, TEN + "\n" + TEN + " " + TEN);
        breaks(TEN + " " + TEN + "\nabcdefghi", 2, TEN + "\n" + TEN + " abcdefghi");
        String line = TEN + TEN + "abcdefgh";
        breaks(line + " " + line, 2, line + "\n" + line);
        breaks(line + "\n" + line, 2, line + "\n" + line);
        breaks("a " + line, 2, "a\n" + line);
        breaks(line + " a", 2, line + "\na");
        breaks(" " + line, CueBench.NONE, " " + line);
        breaks(line + " ", CueBench.NONE, line + " ");
        breaks("  " + line, 2, " \n" + line);
        breaks(line + "  ", 2, line + "\n ");
    }

    private static void hyphens() {
        String left = TEN + TEN + "-";
        breaks(left + TEN, 2, left + "\n" + TEN);
        breaks("-" + Due.times("x", 28), 2, "-\n" + Due.times("x", 28));
        breaks(Due.times("x", 28) + "-", CueBench.NONE, Due.times("x", 28) + "-");
        String thin = Due.times("\u00c0", 32);
        breaks(left + TEN + thin.substring(1), 2, left + "\n" + TEN + thin.substring(1));
        breaks(left + TEN + thin + thin.substring(31), CueBench.NONE, left + TEN + thin + thin.substring(31));
        breaks(left + " " + TEN + thin, 2, left + "\n" + TEN + thin);
        breaks(TEN + "----" + TEN + TEN, 2, TEN + "----\n" + TEN + TEN);
        breaks(TEN + "a--------" + TEN + "b", 2, TEN + "a----\n----" + TEN + "b");
        breaks("-\nab-\n-" + Due.times("x", 27), 2, "- ab- -\n" + Due.times("x", 27));
    }

    private static void whichIsBest() {
        String nine = "abcdefghi";
        // Behind the hyphen both lines have 15 cells, at the blank the second one has 14.
        breaks(nine + "abcde- " + nine + "abcde", 2, nine + "abcde-\n " + nine + "abcde");
        breaks(nine + "abcde- " + nine + "abcdef", 2, nine + "abcde-\n" + nine + "abcdef");
        // Differences of 3 both ways: the second line gets more.
        breaks(Due.times("x", 13) + " yy " + Due.times("z", 13), 2, Due.times("x", 13) + "\nyy " + Due.times("z", 13));
        // Two places that differ by bytes without cells alone: the first one.
        String x14 = Due.times("x", 14);
        breaks(x14 + "-\u00c0-" + x14, 2, x14 + "-\n\u00c0-" + x14);
        breaks(x14 + "-" + x14, 2, x14 + "-\n" + x14);
        // Wide bytes count two.
        breaks("\u0080\u0080\u0080 " + TEN + " " + TEN + " abcd", 2, "\u0080\u0080\u0080 " + TEN + "\n" + TEN + " abcd");
    }

    private static void refused() {
        CueBench x = new CueBench();
        Due.is("breakLines of none", x.breakLines(0), CueBench.BAD);
        Due.read(x, 2, Due.packed(1, 2, Due.times("x", 29)) + Due.packed(1, 2, Due.times("x", 29) + "\ny"));
        for (int i : new int[] {-1, 2, Integer.MIN_VALUE, Integer.MAX_VALUE}) {
            Due.is("breakLines(" + i + ")", x.breakLines(i), CueBench.BAD);
        }
        Due.is("no break", x.breakLines(0), CueBench.NONE);
        Due.is("first line too long", x.breakLines(1), CueBench.NONE);
        Due.is("text stays", Due.text(x, 1), Due.times("x", 29) + "\ny");
        Due.is("the read alone is a change", x.undo() && !x.undo(), true);
    }
}
