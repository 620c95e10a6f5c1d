/** Rules, shots, settings and promise 13, sentence by sentence, at their edges. */
public final class RepairEdgesTest {
    private static final int FRAMES = CueBench.FRAMES, PACKED = CueBench.PACKED;
    private static final long FRAME = 28224000;

    public static void main(String[] args) {
        theFirstRules();
        ownRules();
        startsMoveAtMostTwelve();
        endsMoveAtMostFortyEight();
        fromTheNearestFrames();
        noStartBelowZero();
        noEndBeyondLast();
        durations();
        speeds();
        speedsOfOtherRates();
        gaps();
        endsNearShots();
        endsTwoBeforeShots();
        shotsAtTheEdges();
        noShots();
        leastTimesOfSeveral();
        firstNumberWithoutSetting();
        startAtZeroWhenALaterOneIsStuck();
        endAsFarAsItGoesWhenALaterOneIsStuck();
        noCues();
        sixteenCues();
        Due.end();
    }

    private static void repaired(CueBench x, int sum, String frames) {
        String before = Due.cues(x);
        Due.is("repair of " + Due.shown(before), x.repair(), sum);
        Due.is("frames after repair of " + Due.shown(before), Due.frames(x), frames);
    }

    private static void refused(CueBench x, int i) {
        String before = Due.cues(x);
        Due.is("repair of " + Due.shown(before), x.repair(), -10 - i);
        Due.is("cues stay", Due.cues(x), before);
        Due.is("no change but the read", x.undo() && !x.undo(), true);
    }

    private static CueBench with(String frames, int gap, int least, int most, int speed) {
        CueBench x = Due.with(FRAMES, frames);
        Due.is("rules", x.rules(gap, least, most, speed), true);
        return x;
    }

    private static CueBench with(String frames) {
        return Due.with(FRAMES, frames);
    }

    private static String cells(int n) {
        return Due.times("y", n);
    }

    /** "RULES: a GAP in frames, at first 2; a LEAST and a MOST duration in frames, 20 and 168; a SPEED .., 17." */
    private static void theFirstRules() {
        repaired(with("{100}{150}a\n{152}{200}b\n"), 0, "100 150 152 200");
        repaired(with("{100}{150}a\n{151}{200}b\n"), 1, "100 149 151 200");
        repaired(with("{100}{120}a\n"), 0, "100 120");
        repaired(with("{100}{119}a\n"), 1, "99 119");
        repaired(with("{100}{268}a\n"), 0, "100 268");
        repaired(with("{100}{269}a\n"), 1, "100 268");
        repaired(with("{100}{125}" + cells(17) + "\n"), 0, "100 125");
        repaired(with("{100}{125}" + cells(18) + "\n"), 2, "98 125");
    }

    /** Each of the four at its least and at its greatest value. */
    private static void ownRules() {
        repaired(with("{100}{150}a\n{150}{200}b\n", 0, 1, 400, 60), 0, "100 150 150 200");
        repaired(with("{100}{150}a\n{149}{200}b\n", 0, 1, 400, 60), 1, "100 149 149 200");
        repaired(with("{100}{150}a\n{170}{200}b\n", 20, 1, 400, 60), 0, "100 150 170 200");
        repaired(with("{100}{150}a\n{169}{200}b\n", 20, 1, 400, 60), 1, "100 149 169 200");
        repaired(with("{100}{101}a\n", 0, 1, 1, 60), 0, "100 101");
        repaired(with("{100}{102}a\n", 0, 1, 1, 60), 1, "100 101");
        repaired(with("{100}{200}a\n", 0, 100, 100, 60), 0, "100 200");
        repaired(with("{100}{199}a\n", 0, 100, 400, 60), 1, "99 199");
        repaired(with("{100}{500}a\n", 0, 1, 400, 60), 0, "100 500");
        repaired(with("{100}{501}a\n", 0, 1, 400, 60), 1, "100 500");
        repaired(with("{100}{125}a\n", 0, 1, 400, 1), 0, "100 125");
        repaired(with("{100}{124}a\n", 0, 1, 400, 1), 1, "99 124");
        repaired(with("{100}{125}" + cells(60) + "\n", 0, 1, 400, 60), 0, "100 125");
        repaired(with("{100}{124}" + cells(60) + "\n", 0, 1, 400, 60), 1, "99 124");
    }

    /** ".. away from the nearest frames to its start and its end by at most 12, and at most 48": both at once. */
    private static void startsMoveAtMostTwelve() {
        // 60 frames longer asks for 12 of the start and 48 of the end, 61 for more than there are.
        repaired(with("{100}{120}a\n", 2, 80, 400, 60), 60, "88 168");
        refused(with("{100}{120}a\n", 2, 81, 400, 60), 0);
        // So does 60 frames shorter.
        repaired(with("{100}{300}a\n", 2, 20, 140, 60), 60, "112 252");
        refused(with("{100}{300}a\n", 2, 20, 139, 60), 0);
        // A start alone, between an end that can not move and the one before it.
        repaired(with("{100}{150}a\n{140}{160}b\n", 2, 50, 50, 60), 54, "88 138 140 190");
        repaired(with("{0}{60}a\n{50}{200}b\n", 2, 60, 168, 60), 12, "0 60 62 200");
        refused(with("{0}{60}a\n{49}{200}b\n", 2, 60, 168, 60), 1);
    }

    private static void endsMoveAtMostFortyEight() {
        // The start is at 0 and can not be less, so that the end alone can make the cue longer.
        repaired(with("{0}{20}a\n", 2, 68, 400, 60), 48, "0 68");
        refused(with("{0}{20}a\n", 2, 69, 400, 60), 0);
        // The later cue can start at 162 at most, the first one has to end 48 frames before its end.
        repaired(with("{100}{208}a\n{150}{250}b\n"), 60, "100 160 162 250");
        repaired(with("{100}{208}a\n{151}{250}b\n"), 59, "100 160 162 250");
        refused(with("{100}{209}a\n{150}{250}b\n"), 1);
    }

    /** What counts is how far a frame is from the nearest one, of two as near the even one. */
    private static void fromTheNearestFrames() {
        CueBench x = Due.with(PACKED, Due.packed(201 * FRAME / 2, 241 * FRAME / 2, "a"));
        repaired(x, 0, "100 120");
        x = Due.with(PACKED, Due.packed(201 * FRAME / 2 + 1, 241 * FRAME / 2, "a"));
        repaired(x, 1, "100 120");
        x = Due.with(PACKED, Due.packed(203 * FRAME / 2, 243 * FRAME / 2 - 1, "a"));
        repaired(x, 1, "101 121");
        x = Due.with(PACKED, Due.packed(203 * FRAME / 2, 243 * FRAME / 2, "a"));
        repaired(x, 0, "102 122");
    }

    /** "no start is below 0" */
    private static void noStartBelowZero() {
        repaired(with("{0}{20}a\n"), 0, "0 20");
        repaired(with("{1}{20}a\n"), 1, "0 20");
        repaired(with("{0}{19}a\n"), 1, "0 20");
        repaired(with("{2}{12}a\n"), 10, "0 20");
        repaired(with("{12}{13}a\n"), 19, "0 20");
        repaired(with("{13}{14}a\n"), 19, "1 21");
    }

    /** "no end beyond LAST" */
    private static void noEndBeyondLast() {
        repaired(with("{89980}{90000}a\n"), 0, "89980 90000");
        repaired(with("{89981}{90000}a\n"), 1, "89980 90000");
        repaired(with("{89992}{90000}a\n"), 12, "89980 90000");
        refused(with("{89993}{90000}a\n"), 0);
        // At 24000 / 1001 LAST is nearest to frame 86314, which is beyond it.
        CueBench x = new CueBench();
        x.rate(24000, 1001);
        Due.read(x, PACKED, Due.packed(86292 * 29429400L, CueBench.LAST, "a"));
        Due.is("frame 86314 is not taken", x.repair(), 1);
        Due.is("end", x.cue(0, 1), 86313 * 29429400L);
        // At 60000 / 1001 it is nearest to frame 215784, which is not.
        x.rate(60000, 1001);
        Due.read(x, PACKED, Due.packed(215700 * 11771760L, CueBench.LAST, "a"));
        Due.is("frame 215784 is taken", x.repair(), 0);
        Due.is("end", x.cue(0, 1), 215784 * 11771760L);
    }

    /** "each duration is from LEAST to MOST" */
    private static void durations() {
        repaired(with("{100}{130}a\n", 2, 30, 30, 60), 0, "100 130");
        repaired(with("{100}{129}a\n", 2, 30, 30, 60), 1, "99 129");
        repaired(with("{100}{131}a\n", 2, 30, 30, 60), 1, "100 130");
        repaired(with("{100}{130}a\n", 2, 29, 31, 60), 0, "100 130");
        repaired(with("{100}{129}a\n", 2, 29, 31, 60), 0, "100 129");
        repaired(with("{100}{131}a\n", 2, 29, 31, 60), 0, "100 131");
        repaired(with("{100}{132}a\n", 2, 29, 31, 60), 1, "100 131");
    }

    /** "no text has more cells than SPEED times the duration in seconds" */
    private static void speeds() {
        repaired(with("{100}{150}" + cells(34) + "\n"), 0, "100 150");
        repaired(with("{100}{149}" + cells(34) + "\n"), 1, "99 149");
        // 15 cells ask for 22 frames and a 17th part of one.
        repaired(with("{100}{123}" + cells(15) + "\n"), 0, "100 123");
        repaired(with("{100}{122}" + cells(15) + "\n"), 1, "99 122");
        repaired(with("{100}{149}" + Due.times("\u00bf", 17) + "\n"), 1, "99 149");
        repaired(with("{100}{120}" + Due.times("\u00c0", 64) + "\n"), 0, "100 120");
        repaired(with("{100}{260}" + Due.times("\u0080", 64) + "\n", 2, 20, 400, 20), 0, "100 260");
        repaired(with("{100}{259}" + Due.times("\u0080", 64) + "\n", 2, 20, 400, 20), 1, "99 259");
        // What the speed asks for is more than the most.
        repaired(with("{100}{150}" + cells(34) + "\n", 2, 20, 50, 17), 0, "100 150");
        refused(with("{100}{150}" + cells(34) + "\n", 2, 20, 49, 17), 0);
        // A 10 has no cell.
        repaired(with("{100}{125}" + cells(9) + "|" + cells(8) + "\n"), 0, "100 125");
        repaired(with("{100}{125}" + cells(9) + "|" + cells(9) + "\n"), 2, "98 125");
    }

    private static void speedsOfOtherRates() {
        CueBench x = new CueBench();
        x.rate(24000, 1001);
        Due.read(x, FRAMES, "{100}{148}" + cells(34) + "\n");
        Due.is("48 frames are a little more than two seconds", x.repair(), 0);
        Due.read(x, FRAMES, "{100}{147}" + cells(34) + "\n");
        Due.is("47 are less", x.repair(), 1);
        x.rate(50, 1);
        Due.read(x, FRAMES, "{100}{200}" + cells(34) + "\n");
        Due.is("100 frames are two seconds", x.repair(), 0);
        Due.read(x, FRAMES, "{100}{199}" + cells(34) + "\n");
        Due.is("99 are less", x.repair(), 1);
    }

    /** "each start is at least GAP greater than the end before it" */
    private static void gaps() {
        repaired(with("{100}{120}a\n{125}{145}b\n", 5, 20, 168, 17), 0, "100 120 125 145");
        repaired(with("{100}{120}a\n{124}{145}b\n", 5, 20, 168, 17), 1, "100 120 125 145");
        repaired(with("{100}{121}a\n{125}{145}b\n", 5, 20, 168, 17), 1, "100 120 125 145");
        repaired(with("{100}{120}a\n{126}{146}b\n", 5, 20, 168, 17), 0, "100 120 126 146");
    }

    private static void nearShot(int end, int sum, int to) {
        CueBench x = with("{400}{" + end + "}a\n");
        Due.is("shot", x.shot(500), 1);
        repaired(x, sum, "400 " + to);
    }

    /** "each end that is at most 7 frames away from some shot is just 2 before some shot" */
    private static void endsNearShots() {
        nearShot(492, 0, 492);
        nearShot(493, 1, 492);
        nearShot(494, 2, 492);
        nearShot(495, 3, 492);
        nearShot(496, 2, 498);
        nearShot(497, 1, 498);
        nearShot(498, 0, 498);
        nearShot(499, 1, 498);
        nearShot(500, 2, 498);
        nearShot(501, 3, 498);
        nearShot(502, 4, 498);
        nearShot(503, 5, 498);
        nearShot(504, 4, 508);
        nearShot(505, 3, 508);
        nearShot(506, 2, 508);
        nearShot(507, 1, 508);
        nearShot(508, 0, 508);
    }

    /** Two before one shot, though near to another that it is not two before. */
    private static void endsTwoBeforeShots() {
        int[] others = {490, 491, 493, 498, 499, 501, 504, 505, 506};
        for (int other : others) {
            CueBench x = with("{400}{498}a\n");
            x.shot(500);
            x.shot(other);
            repaired(x, 0, "400 498");
            x = with("{400}{498}a\n");
            x.shot(other);
            x.shot(500);
            repaired(x, 0, "400 498");
            x = with("{400}{498}a\n");
            x.shot(other);
            Due.is("without the shot at 500, with " + other, x.repair() == 0, Math.abs(other - 498) > 7);
        }
    }

    private static void shotsAtTheEdges() {
        CueBench x = with("{0}{8}a\n", 2, 1, 168, 60);
        x.shot(0);
        repaired(x, 0, "0 8");
        x = with("{0}{7}a\n", 2, 1, 168, 60);
        x.shot(0);
        repaired(x, 1, "0 8");
        x = with("{0}{4}a\n", 2, 1, 168, 60);
        x.shot(3);
        repaired(x, 3, "0 1");
        x = with("{89900}{90000}a\n");
        x.shot(90007);
        repaired(x, 1, "89900 89999");
        x = with("{89900}{90000}a\n");
        x.shot(90002);
        x.shot(216000);
        repaired(x, 0, "89900 90000");
        x = with("{89900}{90000}a\n");
        x.shot(90008);
        repaired(x, 0, "89900 90000");
        // The 20th shot counts as the first one does.
        x = with("{400}{500}a\n");
        for (int k = 1; k <= 19; k++) x.shot(2000 + k);
        Due.is("the 20th", x.shot(500), 20);
        Due.is("one too many", x.shot(492), CueBench.FULL);
        repaired(x, 2, "400 498");
    }

    private static void noShots() {
        for (int end = 490; end < 510; end++) repaired(with("{400}{" + end + "}a\n"), 0, "400 " + end);
        CueBench x = with("{400}{500}a\n");
        Due.is("a bad one is none", x.shot(-1), CueBench.BAD);
        repaired(x, 0, "400 500");
        x = new CueBench();
        x.rate(60, 1);
        Due.is("a bad one is none", x.shot(216001), CueBench.BAD);
        Due.read(x, FRAMES, "{215900}{216000}a\n");
        Due.is("repair", x.repair(), 0);
        Due.is("a good one", x.shot(216000), 1);
        Due.is("repair", x.repair(), 2);
    }

    /** "of several the one with the least times, compared in order (start and end of cue 0, of cue 1, ..)" */
    private static void leastTimesOfSeveral() {
        repaired(with("{100}{110}a\n"), 10, "90 110");
        repaired(with("{100}{101}a\n"), 19, "88 108");
        repaired(with("{100}{150}a\n{148}{198}b\n"), 4, "100 146 148 198");
        repaired(with("{100}{120}a\n{118}{138}b\n"), 8, "96 116 118 138");
        repaired(with("{100}{130}a\n{130}{160}b\n{160}{190}c\n"), 4, "100 128 130 158 160 190");
        CueBench x = with("{100}{203}a\n");
        x.shot(200);
        x.shot(210);
        // 198 and 208 are five frames away both.
        repaired(x, 5, "100 198");
    }

    /** "-10 - i, refused, when there is none, i being the least number for which the cues 0 .. i alone have none" */
    private static void firstNumberWithoutSetting() {
        for (int i = 0; i < 16; i++) {
            StringBuilder cues = new StringBuilder();
            for (int k = 0; k < 16; k++) {
                int start = 100 + 300 * k;
                // Cues of 229 frames and more are too long by more than both ends can move.
                int end = start + (k >= i ? 229 : 228);
                cues.append('{').append(start).append("}{").append(end).append("}a\n");
            }
            refused(with(cues.toString()), i);
        }
        refused(with("{100}{329}a\n{500}{520}b\n"), 0);
        // Two cues that do not go together: the second one is told, a third one that is too long is not.
        refused(with("{100}{160}a\n{100}{120}b\n{600}{900}c\n"), 1);
    }

    private static void startAtZeroWhenALaterOneIsStuck() {
        CueBench x = with("{0}{20}a\n{500}{501}b\n", 2, 68, 400, 60);
        refused(x, 1);
        x = with("{0}{20}a\n{500}{501}b\n", 2, 69, 400, 60);
        refused(x, 0);
    }

    private static void endAsFarAsItGoesWhenALaterOneIsStuck() {
        // The first cue has to end 48 frames earlier for the second one, and the third one is too long.
        refused(with("{100}{208}a\n{150}{250}b\n{600}{900}c\n"), 2);
        refused(with("{100}{209}a\n{150}{250}b\n{600}{900}c\n"), 1);
        // The first cue has to be 60 frames longer by itself.
        refused(with("{100}{120}a\n{600}{601}b\n", 2, 80, 400, 60), 1);
    }

    private static void noCues() {
        CueBench x = new CueBench();
        Due.is("without cues", x.repair(), 0);
        Due.is("a change", x.undo(), true);
        Due.is("the only one", x.undo(), false);
    }

    private static void sixteenCues() {
        StringBuilder cues = new StringBuilder();
        StringBuilder due = new StringBuilder();
        for (int k = 0; k < 16; k++) {
            cues.append('{').append(100 + 50 * k).append("}{").append(149 + 50 * k).append("}a\n");
            due.append(100 + 50 * k).append(' ').append((k < 15 ? 148 : 149) + 50 * k).append(' ');
        }
        repaired(with(cues.toString()), 15, due.toString().trim());
    }
}
