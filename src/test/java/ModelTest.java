import java.util.Random;

/** Promises 1 to 20: long runs of calls on the class and on the model must answer the same. */
public final class ModelTest {
    private static final String LETTERS = "abc  --  \u0080\u00bf\u00c0\u00ffxyz~";
    private static final String SPOILERS = "0123456789{}|\n\n|x:,> \0\1\u007f\u00ff@A";
    private static final int[][] RATES = {
        {25, 1}, {24, 1}, {30, 1}, {50, 1}, {60, 1}, {24000, 1001}, {30000, 1001}, {60000, 1001}, {1, 1}, {7, 1}
    };

    private final Random random;
    private final CueBench bench = new CueBench();
    private final Model model = new Model();
    private final String run;

    private ModelTest(int seed) {
        random = new Random(seed);
        run = "run " + seed + ": ";
    }

    public static void main(String[] args) {
        for (int seed = 1; seed <= 300 && Due.wrongSoFar() == 0; seed++) new ModelTest(seed).calls();
        Due.end();
    }

    /** The state is compared by calls of the class too, so far fewer than 512 are drawn. */
    private void calls() {
        for (int k = 0; k < 60 && Due.wrongSoFar() == 0; k++) {
            String call = drawn();
            Due.is(run + "cues after " + call, Due.cues(bench), model.allCues());
            for (int i = 0; i < 17; i++) {
                for (int what = 0; what < 6; what++) {
                    Due.is(run + "cue after " + call, bench.cue(i, what), model.cue(i, what));
                }
            }
            Due.is(run + "clash after " + call, bench.clash(), model.clash());
        }
    }

    private String drawn() {
        int kind = random.nextInt(24);
        if (kind < 5) return loads();
        if (kind == 5) return setters();
        if (kind == 6) return shots();
        if (kind < 10) return same("repair()", bench.repair(), model.repair());
        if (kind < 13) return writes();
        if (kind < 15) return undoes();
        if (kind < 17) return maps();
        if (kind < 19) return shifts();
        int i = random.nextInt(model.cues() + 2) - 1;
        if (kind < 21) return same("breakLines(" + i + ")", bench.breakLines(i), model.breakLines(i));
        if (kind == 21) return same("merge(" + i + ")", bench.merge(i), model.merge(i));
        int j = random.nextInt(Math.max(2, (int) model.cue(i, 2)) + 1);
        return same("split(" + i + ", " + j + ")", bench.split(i, j), model.split(i, j));
    }

    private String same(String call, long got, long want) {
        Due.is(run + call, got, want);
        return call;
    }

    private String same(String call, boolean got, boolean want) {
        return same(call, got ? 1 : 0, want ? 1 : 0);
    }

    private String text() {
        int size = random.nextInt(4) == 0 ? 64 - random.nextInt(3) : 1 + random.nextInt(45);
        StringBuilder all = new StringBuilder();
        while (all.length() < size) {
            boolean inside = all.length() > 0 && all.length() < size - 1 && all.charAt(all.length() - 1) != '\n';
            if (inside && random.nextInt(12) == 0) all.append('\n');
            else all.append(LETTERS.charAt(random.nextInt(LETTERS.length())));
        }
        return all.toString();
    }

    /** Cues in a form, some with faults, read by both. */
    private String loads() {
        int form = random.nextInt(3);
        Model made = new Model();
        int wanted = 1 + random.nextInt(random.nextInt(3) == 0 ? 18 : 5);
        long at = random.nextInt(8) == 0 ? CueBench.LAST - 40 * 28224000L * wanted : random.nextInt(3) * 14112000L * 10;
        StringBuilder bytes = new StringBuilder();
        for (int k = 0; k < wanted; k++) {
            long length = (1 + random.nextInt(120)) * 14112000L + random.nextInt(3);
            made.buffer = Due.packed(at, Math.min(at + length, CueBench.LAST), text());
            made.read(2);
            made.write(form);
            if (bytes.length() + made.buffer.length() > 1000) break;
            bytes.append(made.buffer);
            at = Math.min(CueBench.LAST - 2, at + random.nextInt(100) * 14112000L + random.nextInt(3) - random.nextInt(20) / 19);
            at = Math.max(0, at);
        }
        String all = random.nextInt(3) == 0 ? spoilt(bytes.toString()) : bytes.toString();
        Due.fill(bench, all);
        model.buffer = all;
        return same("read(" + form + ") of " + Due.shown(all), bench.read(form), model.read(form));
    }

    private String spoilt(String bytes) {
        StringBuilder all = new StringBuilder(bytes);
        for (int n = random.nextInt(2); n >= 0 && all.length() > 0; n--) {
            int at = random.nextInt(all.length());
            char c = SPOILERS.charAt(random.nextInt(SPOILERS.length()));
            int way = random.nextInt(4);
            if (way == 0) all.setCharAt(at, c);
            else if (way == 1) all.deleteCharAt(at);
            else if (way == 2 && all.length() < 1000) all.insert(at, c);
            else all.setLength(at);
        }
        return all.toString();
    }

    private String setters() {
        int[] rate = RATES[random.nextInt(RATES.length)];
        int num = rate[0] + random.nextInt(9) / 8;
        int g = random.nextInt(23) - 1;
        int l = random.nextInt(40);
        int m = l - 1 + random.nextInt(random.nextBoolean() ? 30 : 300);
        int s = random.nextInt(62);
        same("rate(" + num + ", " + rate[1] + ")", bench.rate(num, rate[1]), model.rate(num, rate[1]));
        String call = "rules(" + g + ", " + l + ", " + m + ", " + s + ")";
        return same(call, bench.rules(g, l, m, s), model.rules(g, l, m, s));
    }

    private String shots() {
        int frame = random.nextInt(12) == 0 ? random.nextInt(216003) - 1 : random.nextInt(300);
        return same("shot(" + frame + ")", bench.shot(frame), model.shot(frame));
    }

    private String writes() {
        int form = random.nextInt(5) - 1;
        same("write(" + form + ")", bench.write(form), model.write(form));
        Due.is(run + "bytes written in " + form, Due.buffer(bench), model.buffer);
        if (random.nextBoolean()) return "write(" + form + ")";
        return same("read(" + form + ")", bench.read(form), model.read(form));
    }

    private String undoes() {
        int n = random.nextInt(5) == 0 ? 12 : 1;
        for (int k = 0; k < n; k++) same("undo()", bench.undo(), model.undo());
        return "undo()";
    }

    private String maps() {
        int a = random.nextInt(400) - 2;
        int b = random.nextInt(400) - 2;
        int a2 = a + random.nextInt(60) - 20;
        int b2 = random.nextInt(6) == 0 ? random.nextInt(90010) : b + random.nextInt(60) - 20;
        String call = "twoPoint(" + a + ", " + a2 + ", " + b + ", " + b2 + ")";
        return same(call, bench.twoPoint(a, a2, b, b2), model.twoPoint(a, a2, b, b2));
    }

    private String shifts() {
        long ticks = (random.nextInt(400) - 100) * 7056000L + random.nextInt(5);
        if (random.nextInt(10) == 0) ticks = CueBench.LAST / 2 * (random.nextInt(7) - 3);
        return same("shift(" + ticks + ")", bench.shift(ticks), model.shift(ticks));
    }
}
