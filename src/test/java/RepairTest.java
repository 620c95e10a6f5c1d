import java.util.Random;

/** Promise 13: repair. */
public final class RepairTest {
    public static void main(String[] args) {
        durations();
        edges();
        speeds();
        gaps();
        shots();
        stuck();
        ontoFrames();
        severalWays();
        manyCues();
        Due.end();
    }

    private static CueBench with(String frames) {
        CueBench x = new CueBench();
        Due.read(x, 1, frames);
        return x;
    }

    private static void repaired(CueBench x, int sum, String frames) {
        String before = Due.cues(x);
        Due.is("repair of " + Due.shown(before), x.repair(), sum);
        Due.is("frames after repair of " + Due.shown(before), Due.frames(x), frames);
        Due.is("again", x.repair(), 0);
        Due.is("again", Due.frames(x), frames);
        Due.is("undo", x.undo() && x.undo(), true);
        Due.is("taken back", Due.cues(x), before);
    }

    private static void refused(CueBench x, int i) {
        String before = Due.cues(x);
        Due.is("repair of " + Due.shown(before), x.repair(), -10 - i);
        Due.is("cues stay", Due.cues(x), before);
        Due.is("no change", x.undo() && !x.undo(), true);
    }

    private static void durations() {
        repaired(with("{100}{120}a\n"), 0, "100 120");
        repaired(with("{100}{119}a\n"), 1, "99 119");
        repaired(with("{100}{110}a\n"), 10, "90 110");
        repaired(with("{100}{101}a\n"), 19, "88 108");
        repaired(with("{100}{268}a\n"), 0, "100 268");
        repaired(with("{100}{269}a\n"), 1, "100 268");
        repaired(with("{100}{300}a\n"), 32, "100 268");
        repaired(with("{100}{328}a\n"), 60, "112 280");
        refused(with("{100}{329}a\n"), 0);
    }

    private static void edges() {
        repaired(with("{0}{10}a\n"), 10, "0 20");
        repaired(with("{5}{15}a\n"), 10, "0 20");
        repaired(with("{89990}{90000}a\n"), 10, "89980 90000");
        repaired(with("{89992}{90000}a\n"), 12, "89980 90000");
        refused(with("{89993}{90000}a\n"), 0);
        CueBench x = new CueBench();
        x.rate(24000, 1001);
        Due.read(x, 2, Due.packed(86293 * 29429400L, CueBench.LAST, "a"));
        Due.is("the nearest frame to LAST is beyond it", x.repair(), 1);
        Due.is("end", x.cue(0, 1), 86313 * 29429400L);
    }

    private static void speeds() {
        repaired(with("{100}{140}" + Due.times("y", 34) + "\n"), 10, "90 140");
        repaired(with("{100}{140}" + Due.times("y", 35) + "\n"), 12, "88 140");
        repaired(with("{100}{140}" + Due.times("\u0080", 17) + "|\u00c0\n"), 10, "90 140");
        CueBench x = with("{100}{140}" + Due.times("y", 34) + "\n");
        x.rules(2, 20, 49, 17);
        refused(x, 0);
        x = new CueBench();
        x.rate(24000, 1001);
        Due.read(x, 1, "{100}{140}" + Due.times("y", 34) + "\n");
        // 47 frames are less than 34 / 17 seconds at this rate, 48 are more.
        Due.is("a rate that is no whole number", x.repair(), 8);
    }

    private static void gaps() {
        repaired(with("{100}{150}a\n{152}{200}b\n"), 0, "100 150 152 200");
        repaired(with("{100}{150}a\n{151}{200}b\n"), 1, "100 149 151 200");
        repaired(with("{100}{120}a\n{121}{200}b\n"), 1, "100 120 122 200");
        repaired(with("{100}{160}a\n{121}{200}b\n"), 41, "100 120 122 200");
        CueBench x = with("{100}{150}a\n{150}{200}b\n");
        x.rules(0, 20, 168, 17);
        repaired(x, 0, "100 150 150 200");
        x = with("{100}{150}a\n{150}{200}b\n");
        x.rules(20, 20, 168, 17);
        repaired(x, 20, "100 130 150 200");
    }

    private static void shot(int end, int sum, int to) {
        CueBench x = with("{100}{" + end + "}a\n");
        x.shot(200);
        repaired(x, sum, "100 " + to);
    }

    private static void shots() {
        shot(192, 0, 192);
        shot(193, 1, 192);
        shot(195, 3, 192);
        shot(196, 2, 198);
        shot(198, 0, 198);
        shot(200, 2, 198);
        shot(203, 5, 198);
        shot(204, 4, 208);
        shot(207, 1, 208);
        shot(208, 0, 208);
        CueBench x = with("{100}{203}a\n");
        x.shot(200);
        x.shot(205);
        repaired(x, 0, "100 203");
        x = with("{1}{21}a\n");
        x.shot(0);
        x.shot(20);
        repaired(x, 7, "1 28");
        x = with("{100}{121}a\n");
        for (int frame = 70; frame < 210; frame += 7) x.shot(frame);
        repaired(x, 3, "100 124");
    }

    private static void stuck() {
        refused(with("{100}{150}a\n{200}{500}b\n{600}{900}c\n"), 1);
        refused(with("{100}{160}a\n{100}{120}b\n{600}{900}c\n"), 1);
        refused(with("{100}{150}a\n{100}{120}b\n{600}{900}c\n"), 2);
        repaired(with("{100}{120}a\n{110}{130}b\n{120}{140}c\n"), 48, "88 108 110 130 132 152");
        refused(with("{100}{120}a\n{110}{130}b\n{119}{140}c\n"), 2);
        CueBench x = with("{100}{150}" + Due.times("y", 64) + "\n");
        x.rules(2, 20, 168, 1);
        refused(x, 0);
        x = new CueBench();
        Due.is("without cues", x.repair(), 0);
        Due.is("a change", x.undo(), true);
    }

    private static void ontoFrames() {
        CueBench x = new CueBench();
        long f = 28224000;
        Due.read(x, 2, Due.packed(f / 2, 41 * f / 2, "a") + Due.packed(51 * f / 2, 103 * f / 2 - 1, "b"));
        Due.is("moves onto nearest frames count nothing", x.repair(), 0);
        Due.is("the even ones", Due.frames(x), "0 20 26 51");
    }

    private static void severalWays() {
        repaired(with("{100}{110}a\n{111}{121}b\n"), 22, "89 109 111 131");
        repaired(with("{100}{130}a\n{120}{150}b\n{140}{170}c\n"), 24, "100 120 122 142 144 170");
    }

    /** Cues close to one another, so that every move asks for others, against the model. */
    private static void manyCues() {
        Random random = new Random(7);
        int done = 0;
        for (int k = 0; k < 250; k++) {
            CueBench x = new CueBench();
            Model m = new Model();
            int least = 1 + random.nextInt(40);
            x.rules(k % 6, least, 60 + k % 60, 30);
            m.rules(k % 6, least, 60 + k % 60, 30);
            for (int s = random.nextInt(12); s > 0; s--) {
                int frame = random.nextInt(900);
                x.shot(frame);
                m.shot(frame);
            }
            String bytes = closeCues(random, 1 + random.nextInt(16), least);
            Due.fill(x, bytes);
            m.buffer = bytes;
            Due.is("read", x.read(1), m.read(1));
            int sum = m.repair();
            Due.is("repair of " + Due.shown(bytes), x.repair(), sum);
            Due.is("cues after repair of " + Due.shown(bytes), Due.cues(x), m.allCues());
            if (sum > 0) done++;
        }
        Due.is("most of them could be repaired", done > 100, true);
    }

    private static String closeCues(Random random, int n, int least) {
        StringBuilder all = new StringBuilder();
        int at = random.nextInt(30);
        for (int i = 0; i < n; i++) {
            int end = at + Math.max(1, least - 6 + random.nextInt(25));
            all.append('{').append(at).append("}{").append(end).append('}');
            all.append(Due.times("x", 1 + random.nextInt(20))).append('\n');
            at = Math.max(at, end + random.nextInt(20) - 6);
        }
        return all.toString();
    }
}
