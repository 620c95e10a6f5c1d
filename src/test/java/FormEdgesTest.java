/** The three forms, sentence by sentence, at their edges: what may stand where, writing, and the place of the fault. */
public final class FormEdgesTest {
    private static final int BLOCK = CueBench.BLOCK, FRAMES = CueBench.FRAMES, PACKED = CueBench.PACKED;
    private static final long LAST = CueBench.LAST, SECOND = 705600000;
    private static final String Y64 = Due.times("y", 64);

    public static void main(String[] args) {
        everyByteOfBlockTimes();
        greatestFieldsOfBlock();
        numbersOfFrames();
        everyByteOfFrameTimes();
        timesOfPacked();
        numbersOfBytesOfPacked();
        writtenClocks();
        writtenFrames();
        missingBytes();
        nothingIsNoFault();
        moreThanSixtyFour();
        oneThatWouldHaveToFollow();
        lineEnds();
        emptyLinesOfBlock();
        lastBytesOfPacked();
        faultsOfWholeCues();
        faultsWithinBadCues();
        firstOfSeveralFaults();
        theSeventeenth();
        Due.end();
    }

    private static void viable(int form, String until, boolean may) {
        Due.fault(form, until, may ? until.length() : until.length() - 1);
    }

    /** "each hh:mm:ss,mmm in digits (hours, minutes and seconds below 60, ..), between them a blank, > and a blank" */
    private static void everyByteOfBlockTimes() {
        String plain = "00:00:00,000 > 00:00:00,000\n";
        String tens = "5.:5.:5.,... > 5.:5.:5.,...\n";
        for (int place = 0; place < plain.length(); place++) {
            for (char b = 0; b < 256; b++) {
                boolean may = b == plain.charAt(place);
                if (plain.charAt(place) == '0') may = b >= '0' && b <= (tens.charAt(place) == '5' ? '5' : '9');
                viable(BLOCK, plain.substring(0, place) + b, may);
            }
        }
    }

    private static void greatestFieldsOfBlock() {
        CueBench x = Due.with(BLOCK, "00:00:00,999 > 00:00:59,999\na\n\n00:59:59,999 > 01:00:00,000\nb\n\n");
        Due.is("999 thousandths", x.cue(0, 0), 999 * 705600L);
        Due.is("59 seconds", x.cue(0, 1), 59999 * 705600L);
        Due.is("59 minutes", x.cue(1, 0), 3599999 * 705600L);
        Due.is("an hour", x.cue(1, 1), LAST);
        Due.fault(BLOCK, "00:00:00,000 > 00:00:60,000\na\n\n", 21);
        Due.fault(BLOCK, "00:00:00,000 > 00:60:00,000\na\n\n", 18);
        Due.fault(BLOCK, "00:00:00,000 > 60:00:00,000\na\n\n", 15);
        Due.fault(BLOCK, "00:00:60,000 > 00:59:00,000\na\n\n", 6);
        Due.fault(BLOCK, "00:60:00,000 > 00:59:00,000\na\n\n", 3);
        Due.fault(BLOCK, "60:00:00,000 > 00:59:00,000\na\n\n", 0);
        // Below 60 all is as said up to the last byte, but the time is beyond LAST.
        Due.fault(BLOCK, "00:00:00,000 > 59:59:59,999\na\n\n", 0);
        Due.fault(BLOCK, "59:59:59,998 > 59:59:59,999\na\n\n", 0);
    }

    /** "{start}{end} in frames, each of 1 to 6 digits" */
    private static void numbersOfFrames() {
        for (int digits = 1; digits <= 6; digits++) {
            String one = Due.times("0", digits - 1) + "1";
            String two = Due.times("0", digits - 1) + "2";
            Due.taken(FRAMES, "{" + one + "}{2}a\n", 1);
            Due.taken(FRAMES, "{1}{" + two + "}a\n", 1);
            Due.taken(FRAMES, "{" + one + "}{" + two + "}a\n", 1);
        }
        Due.fault(FRAMES, "{}{2}a\n", 1);
        Due.fault(FRAMES, "{1}{}a\n", 4);
        Due.fault(FRAMES, "{0000001}{2}a\n", 7);
        Due.fault(FRAMES, "{1}{0000002}a\n", 10);
        Due.fault(FRAMES, "{1}{2", 5);
        Due.fault(FRAMES, "{1}{999999}a\n", 0);
    }

    private static void everyByteOfFrameTimes() {
        for (char b = 0; b < 256; b++) {
            boolean digit = b >= '0' && b <= '9';
            viable(FRAMES, "" + b, b == '{');
            viable(FRAMES, "{" + b, digit);
            viable(FRAMES, "{1" + b, digit || b == '}');
            viable(FRAMES, "{12345" + b, digit || b == '}');
            viable(FRAMES, "{123456" + b, b == '}');
            viable(FRAMES, "{1}" + b, b == '{');
            viable(FRAMES, "{1}{" + b, digit);
            viable(FRAMES, "{1}{2" + b, digit || b == '}');
            viable(FRAMES, "{1}{123456" + b, b == '}');
        }
    }

    /** "its start in six bytes, the highest first, its end so" */
    private static void timesOfPacked() {
        String lowest = "\0\0\0\0\0\1" + "\0\0\0\0\1\0" + "\1a";
        Due.is("lowest bytes", Due.cues(Due.with(PACKED, lowest)), "1 256 a/");
        String all = "\1\2\3\4\5\6" + "\1\2\3\4\u0080\u00ff" + "\1a";
        Due.is("every byte", Due.cues(Due.with(PACKED, all)), 0x010203040506L + " " + 0x0102030480ffL + " a/");
        CueBench x = Due.with(PACKED, Due.packed(LAST - 1, LAST, "a"));
        Due.is("write", x.write(PACKED), 14);
        Due.is("written", Due.buffer(x), Due.six(LAST - 1) + Due.six(LAST) + "\1a");
        Due.fault(PACKED, Due.times("\u00ff", 12) + "\1a", 0);
        Due.fault(PACKED, Due.times("\0", 6) + Due.times("\u00ff", 6) + "\1a", 0);
        Due.fault(PACKED, "\u0080" + Due.times("\0", 11) + "\1a", 0);
    }

    /** "in PACKED the number of bytes is a fault if it is not 1 .. 64" */
    private static void numbersOfBytesOfPacked() {
        for (char n = 0; n < 256; n++) {
            String until = Due.six(1) + Due.six(2) + n;
            viable(PACKED, until, n >= 1 && n <= 64);
            if (n > 64) Due.fault(PACKED, until + Due.times("y", n), 12);
            else if (n > 0) Due.taken(PACKED, until + Due.times("y", n), 1);
        }
        Due.fault(PACKED, Due.six(1) + Due.six(2) + "\2a", 14);
        Due.fault(PACKED, Due.six(1) + Due.six(2) + "\2abc", 16);
    }

    private static void clock(long time, String want) {
        CueBench x = Due.with(PACKED, time == 0 ? Due.packed(0, 1, "a") : Due.packed(time - 1, time, "a"));
        x.write(BLOCK);
        int from = time == 0 ? 0 : 15;
        Due.is("clock of " + time, Due.buffer(x).substring(from, from + 12), want);
    }

    /** "WRITING gives times as the nearest number of thousandths": a rise through all fields, up to an hour. */
    private static void writtenClocks() {
        clock(0, "00:00:00,000");
        clock(SECOND - 705600, "00:00:00,999");
        clock(SECOND - 352801, "00:00:00,999");
        clock(SECOND - 352800, "00:00:01,000");
        clock(SECOND, "00:00:01,000");
        clock(10 * SECOND, "00:00:10,000");
        clock(60 * SECOND - 705600, "00:00:59,999");
        clock(60 * SECOND - 352800, "00:01:00,000");
        clock(60 * SECOND, "00:01:00,000");
        clock(600 * SECOND, "00:10:00,000");
        clock(LAST - 705600, "00:59:59,999");
        clock(LAST - 352801, "00:59:59,999");
        clock(LAST - 352800, "01:00:00,000");
        clock(LAST, "01:00:00,000");
    }

    /** "frames without zeros in front" */
    private static void writtenFrames() {
        int[] frames = {0, 1, 9, 10, 99, 100, 999, 1000, 9999, 10000, 99999, 100000, 215999, 216000};
        CueBench x = new CueBench();
        x.rate(60, 1);
        for (int k = 0; k + 1 < frames.length; k++) {
            String bytes = "{" + frames[k] + "}{" + frames[k + 1] + "}a\n";
            Due.is("read", Due.read(x, FRAMES, "{" + six(frames[k]) + "}{" + six(frames[k + 1]) + "}a\n"), 1);
            Due.is("write", x.write(FRAMES), bytes.length());
            Due.is("written", Due.buffer(x), bytes);
        }
        x = Due.with(PACKED, Due.packed(0, 1, "a"));
        x.write(FRAMES);
        Due.is("0 is one digit", Due.buffer(x), "{0}{0}a\n");
    }

    private static String six(int frame) {
        return String.format("%06d", frame);
    }

    /** "when bytes are missing, behind the last one" */
    private static void missingBytes() {
        for (int form = 0; form < 3; form++) {
            String first = Due.cue(form, 1, 2, "ab\nc");
            String all = first + Due.cue(form, 3, 4, "d");
            for (int n = 1; n < all.length(); n++) {
                if (n == first.length()) Due.taken(form, first, 1);
                else Due.fault(form, all.substring(0, n), n);
            }
            Due.taken(form, all, 2);
        }
    }

    private static void nothingIsNoFault() {
        for (int form = 0; form < 3; form++) Due.taken(form, "", 0);
    }

    /** "in a text the fault is .. at one with which there would be more than 64" */
    private static void moreThanSixtyFour() {
        for (int form = BLOCK; form <= FRAMES; form++) {
            int t = Due.before(form, 1, 2);
            Due.fault(form, Due.cue(form, 1, 2, Y64 + "z"), t + 64);
            Due.fault(form, Due.cue(form, 1, 2, Y64.substring(2) + "\nyz"), t + 64);
            Due.fault(form, Due.cue(form, 1, 2, Due.times("y\n", 31) + "yyz"), t + 64);
            Due.fault(form, Due.cue(form, 1, 2, Y64 + Y64), t + 64);
        }
        // In BLOCK a 10 behind the 63rd or 64th byte may end the last line; what goes on behind it is too much.
        int t = Due.before(BLOCK, 1, 2);
        Due.taken(BLOCK, Due.cue(BLOCK, 1, 2, Y64), 1);
        Due.fault(BLOCK, Due.cue(BLOCK, 1, 2, Y64 + "\nz"), t + 65);
        Due.taken(BLOCK, Due.cue(BLOCK, 1, 2, Y64.substring(1)), 1);
        Due.fault(BLOCK, Due.cue(BLOCK, 1, 2, Y64.substring(1) + "\nz"), t + 64);
        Due.taken(BLOCK, Due.cue(BLOCK, 1, 2, Y64.substring(2) + "\nz"), 1);
    }

    /** "(or would have to be, as behind a line's end at least one must follow)" */
    private static void oneThatWouldHaveToFollow() {
        int t = Due.before(FRAMES, 1, 2);
        Due.taken(FRAMES, Due.cue(FRAMES, 1, 2, Y64.substring(2) + "\nz"), 1);
        Due.fault(FRAMES, Due.cue(FRAMES, 1, 2, Y64.substring(1) + "\nz"), t + 63);
        Due.fault(FRAMES, "{25}{50}" + Y64.substring(1) + "|", t + 63);
        Due.fault(FRAMES, Due.cue(FRAMES, 1, 2, Y64 + "\nz"), t + 64);
        Due.fault(FRAMES, "{25}{50}" + Due.times("y|", 32), t + 63);
    }

    /** "and at a line's end behind which, or before which, there is no line" */
    private static void lineEnds() {
        Due.fault(FRAMES, "{25}{50}\n", 8);
        Due.fault(FRAMES, "{25}{50}|", 8);
        Due.fault(FRAMES, "{25}{50}a||", 10);
        Due.fault(FRAMES, "{25}{50}a|\n", 10);
        Due.fault(FRAMES, "{25}{50}a|", 10);
        Due.fault(FRAMES, "{25}{50}a|b|\n", 12);
        Due.fault(PACKED, Due.packed(1, 2, "\na"), 13);
        Due.fault(PACKED, Due.packed(1, 2, "a\n\nb"), 15);
        Due.fault(PACKED, Due.packed(1, 2, "a\nb\n"), 16);
        Due.fault(BLOCK, "00:00:01,000 > 00:00:02,000\n\n", 28);
    }

    /** "In BLOCK an empty line ends the cue, but the first one may not be empty" */
    private static void emptyLinesOfBlock() {
        String times = "00:00:01,000 > 00:00:02,000\n";
        Due.fault(BLOCK, times + "\n", 28);
        Due.fault(BLOCK, times + "\na\n\n", 28);
        Due.taken(BLOCK, times + "a\n\n", 1);
        Due.taken(BLOCK, times + "a\n\n" + times + "b\n\n", 2);
        Due.fault(BLOCK, times + "a\n\n\n", 31);
        CueBench x = Due.with(BLOCK, times + "a\n" + times + "b\n\n");
        Due.is("without it a line with times is one of the text", x.cue(0, 3), 3);
    }

    /** "a last byte if it is 10" */
    private static void lastBytesOfPacked() {
        for (int size = 1; size <= 64; size++) {
            String bytes = Due.packed(1, 2, Y64.substring(0, size - 1) + "\n");
            Due.fault(PACKED, bytes, 12 + size);
            Due.fault(PACKED, bytes + "a", 12 + size);
        }
    }

    /** "for a cue that is as said up to its last byte, but .., it is at the first byte of that cue" */
    private static void faultsOfWholeCues() {
        for (int form = 0; form < 3; form++) {
            String good = Due.cue(form, 5, 6, "a");
            int behind = good.length();
            Due.fault(form, Due.cue(form, 5, 5, "a"), 0);
            Due.fault(form, good + Due.cue(form, 7, 7, "b"), behind);
            Due.fault(form, good + Due.cue(form, 8, 7, "b"), behind);
            Due.fault(form, good + Due.cue(form, 4, 7, "b"), behind);
            Due.fault(form, good + good + Due.cue(form, 4, 4, "b"), 2 * behind);
        }
        String good = Due.cue(BLOCK, 5, 6, "a");
        Due.fault(BLOCK, good + "00:00:07,000 > 01:00:00,001\nb\n\n", good.length());
        good = Due.cue(FRAMES, 5, 6, "a");
        Due.fault(FRAMES, good + "{200}{90001}b\n", good.length());
        Due.fault(FRAMES, good + "{90001}{90002}b\n", good.length());
        good = Due.cue(PACKED, 5, 6, "a");
        Due.fault(PACKED, good + Due.packed(7 * SECOND, LAST + 1, "b"), good.length());
    }

    /** A byte that is not as said is told before what is wrong with the whole cue, as that asks for its last byte. */
    private static void faultsWithinBadCues() {
        for (int form = 0; form < 3; form++) {
            String good = Due.cue(form, 5, 6, "a");
            for (int end = 3; end <= 4; end++) {
                String bad = Due.cue(form, 4, end, "b\u007f");
                int t = Due.before(form, 4, end);
                Due.fault(form, bad, t + 1);
                Due.fault(form, good + bad, good.length() + t + 1);
                Due.fault(form, good + bad.substring(0, t + 1), good.length() + t + 1);
            }
        }
        Due.fault(FRAMES, "{90001}{90002}\n", 14);
        Due.fault(FRAMES, "{90001}{90002}b", 15);
        Due.fault(PACKED, Due.packed(LAST + 1, LAST + 1, "\n"), 13);
        Due.fault(BLOCK, "02:00:00,000 > 01:00:00,000\n\n", 28);
    }

    private static void firstOfSeveralFaults() {
        for (int form = 0; form < 3; form++) {
            String good = Due.cue(form, 5, 6, "a");
            String bad = Due.cue(form, 7, 7, "b");
            Due.fault(form, bad + "\u007f", 0);
            Due.fault(form, good + bad + bad, good.length());
            Due.fault(form, good + "\u007f", form == PACKED ? good.length() + 1 : good.length());
        }
    }

    /** "or would be the 17th" */
    private static void theSeventeenth() {
        for (int form = 0; form < 3; form++) {
            String one = Due.cue(form, 1, 2, "a");
            String sixteen = Due.times(one, 16);
            int behind = sixteen.length();
            Due.taken(form, sixteen, 16);
            for (int n = 1; n < one.length(); n++) Due.fault(form, sixteen + one.substring(0, n), behind + n);
            Due.fault(form, sixteen + one, behind);
            Due.fault(form, sixteen + one + "\u007f", behind);
            Due.fault(form, sixteen + Due.cue(form, 1, 1, "a"), behind);
            Due.fault(form, sixteen + Due.cue(form, 1, 2, "\u007f"), behind + Due.before(form, 1, 2));
        }
    }
}
