import java.nio.charset.StandardCharsets;

/** What README.md shows: its run of calls, and its cue in all three forms. */
public final class ReadmeTest {
    public static void main(String[] args) {
        theRun();
        theForms();
        Due.end();
    }

    private static void theRun() {
        CueBench bench = new CueBench();
        String told = "{25}{50}Where were you|last night?\n{51}{140}At home, with the half-finished letter\n";
        for (byte b : told.getBytes(StandardCharsets.ISO_8859_1)) bench.put(b, 1);

        Due.is("read(FRAMES)", bench.read(CueBench.FRAMES), 2);
        Due.is("cue(0, 0)", bench.cue(0, 0), 705600000L);
        Due.is("cue(1, 4)", bench.cue(1, 4), 38);
        Due.is("clash()", bench.clash(), -1);
        Due.is("repair()", bench.repair(), 13);
        Due.is("breakLines(1)", bench.breakLines(1), 2);
        Due.is("text 1", Due.text(bench, 1), "At home, with the\nhalf-finished letter");
        Due.is("split(0, 14)", bench.split(0, 14), 3);
        Due.is("text 0", Due.text(bench, 0), "Where were you");
        Due.is("text 1 of 3", Due.text(bench, 1), "last night?");
        Due.is("undo()", bench.undo(), true);
        Due.is("cues()", bench.cues(), 2);
        Due.is("write(BLOCK)", bench.write(CueBench.BLOCK), 124);
        Due.is("the bytes", Due.buffer(bench), "00:00:00,520 > 00:00:02,000\nWhere were you\nlast night?\n\n"
            + "00:00:02,080 > 00:00:05,600\nAt home, with the\nhalf-finished letter\n\n");
    }

    private static void theForms() {
        String block = "00:00:01,000 > 00:00:02,500\none line\nanother\n\n";
        CueBench bench = Due.with(CueBench.BLOCK, block);
        bench.write(CueBench.BLOCK);
        Due.is("BLOCK", Due.buffer(bench), block);
        bench.write(CueBench.FRAMES);
        Due.is("FRAMES", Due.buffer(bench), "{25}{62}one line|another\n");
        bench.write(CueBench.PACKED);
        Due.is("PACKED", Due.buffer(bench), Due.packed(705600000L, 1764000000L, "one line\nanother"));
        Due.is("the number of bytes", bench.at(12), 16);
    }
}
