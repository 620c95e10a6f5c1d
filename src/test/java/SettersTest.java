/** Promises 5, 11 and 12: rate, shot, rules. */
public final class SettersTest {
    public static void main(String[] args) {
        rates();
        rateIsUsed();
        shots();
        rules();
        rulesAreUsed();
        Due.end();
    }

    private static void rate(int num, int den, boolean want) {
        Due.is("rate(" + num + ", " + den + ")", new CueBench().rate(num, den), want);
    }

    private static void rates() {
        rate(1, 1, true);
        rate(60, 1, true);
        rate(61, 1, false);
        rate(120, 2, true);
        rate(120000, 1001, false);
        rate(60000, 1001, true);
        rate(30000, 1001, true);
        rate(24000, 1001, true);
        rate(24000, 1000, true);
        rate(11, 1, false);
        rate(11, 11, true);
        rate(1000, 1001, false);
        rate(1001, 1001, true);
        rate(1, 2, false);
        rate(0, 1, false);
        rate(1, 0, false);
        rate(-25, -1, false);
        rate(25, -1, false);
        rate(120001, 1001, false);
        rate(1002, 1002, false);
        rate(120000, 1000, false);
        rate(49, 1, true);
        rate(56, 1, true);
        rate(125, 2, false);
        rate(63, 1, false);
        everyRate();
        rate(50, 1, true);
        rate(Integer.MAX_VALUE, 1, false);
        rate(Integer.MIN_VALUE, Integer.MIN_VALUE, false);
    }

    /** Every den with the nums round both limits of the rate. */
    private static void everyRate() {
        for (int den = 1; den <= 1001; den++) {
            for (int num = Math.max(1, den - 3); num <= den + 3; num++) rate(num, den, whole(num, den) && num >= den);
            for (int num = 60 * den - 40; num <= 60 * den + 40; num++) rate(num, den, whole(num, den) && num <= 60 * den);
        }
    }

    private static boolean whole(int num, int den) {
        return 705600000L * den % num == 0;
    }

    private static void rateIsUsed() {
        CueBench x = new CueBench();
        Due.is("rate", x.rate(24000, 1001), true);
        Due.is("refused", x.rate(11, 1), false);
        Due.read(x, CueBench.FRAMES, "{1}{24}a\n");
        Due.is("start", x.cue(0, 0), 29429400);
        Due.is("end", x.cue(0, 1), 24 * 29429400);
        x.rate(1, 1);
        Due.is("times stay in ticks", x.cue(0, 0), 29429400);
        Due.is("write", x.write(CueBench.FRAMES), 8);
        Due.is("written", Due.buffer(x), "{0}{1}a\n");
        Due.is("undo takes the read back", x.undo(), true);
        Due.read(x, CueBench.FRAMES, "{1}{2}a\n");
        Due.is("not the rate", x.cue(0, 0), 705600000);
    }

    private static void shots() {
        CueBench x = new CueBench();
        Due.is("shot(-1)", x.shot(-1), CueBench.BAD);
        Due.is("shot(216001)", x.shot(216001), CueBench.BAD);
        Due.is("shot(MAX)", x.shot(Integer.MAX_VALUE), CueBench.BAD);
        Due.is("shot(MIN)", x.shot(Integer.MIN_VALUE), CueBench.BAD);
        Due.is("shot(0)", x.shot(0), 1);
        Due.is("shot(216000)", x.shot(216000), 2);
        Due.is("shot(0)", x.shot(0), 2);
        for (int k = 3; k <= 20; k++) Due.is("shot", x.shot(100 * k), k);
        Due.is("shot 21", x.shot(50), CueBench.FULL);
        Due.is("one that is there", x.shot(2000), 20);
        Due.is("bad one when full", x.shot(-5), CueBench.BAD);
        Due.is("no change", x.undo(), false);
    }

    private static void rule(int gap, int least, int most, int speed, boolean want) {
        String call = "rules(" + gap + ", " + least + ", " + most + ", " + speed + ")";
        Due.is(call, new CueBench().rules(gap, least, most, speed), want);
    }

    private static void rules() {
        rule(0, 1, 1, 1, true);
        rule(20, 100, 400, 60, true);
        rule(20, 100, 100, 60, true);
        rule(-1, 1, 1, 1, false);
        rule(21, 1, 1, 1, false);
        rule(0, 0, 1, 1, false);
        rule(0, 101, 200, 1, false);
        rule(0, 20, 19, 1, false);
        rule(0, 1, 401, 1, false);
        rule(0, 1, 400, 0, false);
        rule(0, 1, 400, 61, false);
    }

    /** Cues of 10 frames, 1 apart, at first against the first rules. */
    private static void rulesAreUsed() {
        CueBench x = new CueBench();
        Due.read(x, CueBench.FRAMES, "{100}{110}a\n{111}{121}b\n");
        Due.is("refused", x.rules(1, 10, 9, 60), false);
        Due.is("first rules", x.repair(), 22);
        Due.is("gap 2, least 20", Due.frames(x), "89 109 111 131");
        x.undo();
        Due.is("rules", x.rules(1, 10, 400, 60), true);
        Due.is("own rules", x.repair(), 0);
        x.undo();
        Due.is("undo takes no rules back", x.repair(), 0);
    }
}
