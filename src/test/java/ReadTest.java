/** Promise 6: read, with the faults of the three forms. */
public final class ReadTest {
    private static final String TIMES = "00:00:01,000 > 00:00:02,000\n";

    public static void main(String[] args) {
        forms();
        blockTimes();
        blockHours();
        blockTexts();
        frameTimes();
        frameTexts();
        packedTimes();
        packedTexts();
        cueFaults();
        seventeen();
        whatStays();
        Due.end();
    }

    private static void good(int form, String bytes, int cues) {
        Due.is("read " + form + " of " + Due.shown(bytes), Due.read(new CueBench(), form, bytes), cues);
    }

    private static void fault(int form, String bytes, int place) {
        CueBench x = new CueBench();
        Due.is("read " + form + " of " + Due.shown(bytes), Due.read(x, form, bytes), -10 - place);
        Due.is("cues after a fault", x.cues(), 0);
        Due.is("no change after a fault", x.undo(), false);
    }

    private static void forms() {
        CueBench x = new CueBench();
        for (int form : new int[] {-1, 3, Integer.MIN_VALUE, Integer.MAX_VALUE}) {
            Due.is("read(" + form + ")", x.read(form), CueBench.BAD);
        }
        for (int form = 0; form < 3; form++) {
            Due.is("read nothing", x.read(form), 0);
            Due.is("a change", x.undo(), true);
        }
        Due.is("block", Due.read(x, 0, "00:01:02,345 > 01:00:00,000\nab\nc\n\n"), 1);
        Due.is("block", Due.cues(x), 62345L * 705600 + " 2540160000000 ab\nc/");
        Due.is("frames", Due.read(x, 1, "{0}{000007}ab|c\n{5}{090000}d\n"), 2);
        Due.is("frames", Due.cues(x), "0 197568000 ab\nc/141120000 2540160000000 d/");
        Due.is("packed", Due.read(x, 2, Due.packed(3, 258, "ab\nc") + Due.packed(3, CueBench.LAST, "\u00ff")), 2);
        Due.is("packed", Due.cues(x), "3 258 ab\nc/3 2540160000000 \u00ff/");
    }

    private static void blockTimes() {
        String all = TIMES + "x\n\n";
        for (int n = 1; n < all.length(); n++) {
            fault(0, all.substring(0, n), n);
            String wrong = all.substring(0, n - 1) + "~" + all.substring(n);
            if (n <= TIMES.length()) fault(0, wrong, n - 1);
        }
        fault(0, "00:60:00,000 > 00:00:02,000\nx\n\n", 3);
        fault(0, "00:00:60,000 > 00:00:02,000\nx\n\n", 6);
        fault(0, "00:00:00,000 > 00:61:02,000\nx\n\n", 18);
        fault(0, "00:00:00,000 > 00:00:72,000\nx\n\n", 21);
        fault(0, "00:0/:00,000 > 00:00:02,000\nx\n\n", 4);
        fault(0, "00:0::00,000 > 00:00:02,000\nx\n\n", 4);
        good(0, "00:59:59,999 > 01:00:00,000\nx\n\n", 1);
        fault(0, "00:59:59,999 > 01:00:00,001\nx\n\n", 0);
        fault(0, "00:00:00,000 > 59:00:00,000\nx\n\n", 0);
        fault(0, "x" + all, 0);
        fault(0, "\n", 0);
        fault(0, all + "\n", all.length());
        fault(0, all + all.substring(0, 20), all.length() + 20);
    }

    /** Hours are below 60 too: 60 and more are no hours at all, 2 to 59 are a time beyond LAST. */
    private static void blockHours() {
        String rest = ":00:00,000";
        for (char digit = '6'; digit <= '9'; digit++) {
            fault(0, "" + digit, 0);
            fault(0, digit + "0" + rest + " > 00:00:02,000\nx\n\n", 0);
            fault(0, digit + "9" + rest + " > " + digit, 0);
            fault(0, "00" + rest + " > " + digit, 15);
            fault(0, "00" + rest + " > " + digit + "0" + rest + "\nx\n\n", 15);
            fault(0, TIMES + "x\n\n" + digit, TIMES.length() + 3);
            fault(0, TIMES + "x\n\n59" + rest + " > " + digit + "9", TIMES.length() + 18);
        }
        for (char digit = '0'; digit <= '5'; digit++) {
            fault(0, "" + digit, 1);
            fault(0, digit + "9", 2);
            fault(0, "00" + rest + " > " + digit + "9", 17);
            fault(0, "00" + rest + " > " + digit + "9" + rest + "\nx\n", 30);
            fault(0, "00" + rest + " > " + digit + "9" + rest + "\nx\n\n", 0);
            fault(0, TIMES + "x\n\n" + digit + "8" + rest + " > " + digit + "9" + rest + "\nx\n\n", TIMES.length() + 3);
        }
        fault(0, "0:", 1);
        fault(0, "0/", 1);
        good(0, "00" + rest + " > 01" + rest + "\nx\n\n", 1);
    }

    private static void blockTexts() {
        int t = TIMES.length();
        fault(0, TIMES + "\n", t);
        fault(0, TIMES + "\n\n", t);
        good(0, TIMES + "a\nb\nc\n\n", 1);
        fault(0, TIMES + "a\nb|c\n\n", t + 3);
        fault(0, TIMES + "a\u007f\n\n", t + 1);
        fault(0, TIMES + "a\u001f\n\n", t + 1);
        fault(0, TIMES + "a\n\t\n\n", t + 2);
        fault(0, TIMES + "\u0000\n\n", t);
        good(0, TIMES + " ~\u0080\u00ff\n\n", 1);
        fault(0, TIMES + "a\n", t + 2);
        String y = Due.times("y", 64);
        good(0, TIMES + y + "\n\n", 1);
        fault(0, TIMES + y + "y\n\n", t + 64);
        fault(0, TIMES + y + "\ny\n\n", t + 65);
        fault(0, TIMES + y + "\n", t + 65);
        fault(0, TIMES + y.substring(1) + "\ny\n\n", t + 64);
        good(0, TIMES + y.substring(1) + "\n\n", 1);
        good(0, TIMES + y.substring(2) + "\ny\n\n", 1);
        fault(0, TIMES + y.substring(2) + "\nyy\n\n", t + 64);
        good(0, TIMES + Due.times("y\n", 31) + "yy\n\n", 1);
        good(0, TIMES + Due.times("y\n", 31) + "y\n\n", 1);
        fault(0, TIMES + Due.times("y\n", 31) + "y\ny\n\n", t + 64);
    }

    private static void frameTimes() {
        String all = "{123456}{1}x\n";
        for (int n = 1; n < all.length(); n++) {
            fault(1, all.substring(0, n), n);
            if (n <= 11) fault(1, all.substring(0, n - 1) + "~" + all.substring(n), n - 1);
        }
        fault(1, "{}{1}x\n", 1);
        fault(1, "{1}{}x\n", 4);
        fault(1, "{0000000}{1}x\n", 7);
        fault(1, "{0}{0000001}x\n", 10);
        fault(1, "{-1}{1}x\n", 1);
        fault(1, "{1}x\n", 3);
        fault(1, " {1}{2}x\n", 0);
        good(1, "{000000}{000001}x\n", 1);
        good(1, "{0}{90000}x\n", 1);
        fault(1, "{0}{90001}x\n", 0);
        fault(1, "{999998}{999999}x\n", 0);
    }

    private static void frameTexts() {
        String t = "{1}{2}";
        fault(1, t + "\n", 6);
        fault(1, t + "|a\n", 6);
        fault(1, t + "a|\n", 8);
        fault(1, t + "a||b\n", 8);
        fault(1, t + "a\u007f\n", 7);
        fault(1, t + "a", 7);
        fault(1, t + "a|", 8);
        good(1, t + "{|}\n", 1);
        fault(1, t + "a\n\n", 8);
        String y = Due.times("y", 64);
        good(1, t + y + "\n", 1);
        fault(1, t + y + "y\n", 70);
        fault(1, t + y + "|y\n", 70);
        fault(1, t + y.substring(1) + "|y\n", 69);
        fault(1, t + y.substring(1) + "|", 69);
        good(1, t + y.substring(2) + "|y\n", 1);
        fault(1, t + y.substring(2) + "||y\n", 69);
        fault(1, t + y.substring(2) + "|yy\n", 70);
    }

    private static void packedTimes() {
        String all = Due.packed(1, 2, "abc");
        for (int n = 1; n < all.length(); n++) fault(2, all.substring(0, n), n);
        good(2, all, 1);
        fault(2, all + "\u0000", all.length() + 1);
        good(2, Due.packed(CueBench.LAST - 1, CueBench.LAST, "a"), 1);
        fault(2, Due.packed(CueBench.LAST - 1, CueBench.LAST + 1, "a"), 0);
        fault(2, Due.packed(1, 0xffffffffffffL, "a"), 0);
        fault(2, Due.packed(0xfffffffffffeL, 0xffffffffffffL, "a"), 0);
    }

    private static void packedTexts() {
        fault(2, Due.packed(1, 2, ""), 12);
        fault(2, Due.packed(1, 2, "") + "a", 12);
        good(2, Due.packed(1, 2, Due.times("y", 64)), 1);
        fault(2, Due.packed(1, 2, Due.times("y", 65)), 12);
        fault(2, Due.six(1) + Due.six(2) + "\u00ff", 12);
        fault(2, Due.packed(1, 2, "\n"), 13);
        fault(2, Due.packed(1, 2, "\na"), 13);
        fault(2, Due.packed(1, 2, "a\n"), 14);
        fault(2, Due.packed(1, 2, "a\n\nb"), 15);
        fault(2, Due.packed(1, 2, "a|b"), 14);
        fault(2, Due.packed(1, 2, "ab\u007f"), 15);
        fault(2, Due.packed(1, 2, Due.times("y", 63) + "\n"), 76);
        good(2, Due.packed(1, 2, Due.times("y", 62) + "\ny"), 1);
    }

    /** Faults of a whole cue are told at its first byte, but only when it is as said to its last byte. */
    private static void cueFaults() {
        fault(1, "{2}{2}a\n", 0);
        fault(1, "{3}{2}a\n", 0);
        fault(1, "{3}{2}a", 7);
        fault(1, "{3}{2}a|\n", 8);
        fault(1, "{3}{4}a\n{2}{9}b\n", 8);
        good(1, "{3}{4}a\n{3}{9}b\n", 2);
        fault(1, "{3}{4}a\n{5}{5}b\n{x", 8);
        fault(1, "{3}{4}a\n{5}{6}b\n{x", 17);
        fault(0, "00:00:02,000 > 00:00:02,000\nx\n\n", 0);
        fault(0, "00:00:02,000 > 00:00:02,000\n\n", 28);
        fault(1, "{2}{2}\n", 6);
        fault(2, Due.packed(5, 5, "\n"), 13);
        fault(0, TIMES + "x\n\n00:00:00,999 > 00:00:05,000\nx\n\n", TIMES.length() + 3);
        fault(2, Due.packed(5, 5, "a"), 0);
        fault(2, Due.packed(5, 6, "a") + Due.packed(4, 6, "a"), 14);
    }

    private static void seventeen() {
        String sixteen = Due.times("{1}{2}a\n", 16);
        good(1, sixteen, 16);
        fault(1, sixteen + "{1}{2}a\n", 128);
        fault(1, sixteen + "{1}{2}a", 135);
        fault(1, sixteen + "{1}{2}|\n", 134);
        fault(1, sixteen + "{1}{2}a\n{", 128);
        fault(1, sixteen + "x", 128);
    }

    private static void whatStays() {
        CueBench x = new CueBench();
        Due.read(x, 1, "{1}{2}a\n{3}{4}b\n");
        String before = Due.cues(x);
        Due.is("fault", Due.read(x, 1, "{1}{2}c\n{3}{4}|\n"), -24);
        Due.is("cues stay", Due.cues(x), before);
        Due.is("the buffer stays", Due.buffer(x), "{1}{2}c\n{3}{4}|\n");
        Due.is("fewer", Due.read(x, 1, "{5}{6}d\n"), 1);
        Due.is("all become those", Due.cues(x), "141120000 169344000 d/");
        Due.is("the buffer stays", Due.buffer(x), "{5}{6}d\n");
        Due.is("none", Due.read(x, 1, ""), 0);
        Due.is("none", x.cues(), 0);
        x.undo();
        x.undo();
        Due.is("taken back", Due.cues(x), before);
    }
}
