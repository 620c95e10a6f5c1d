/** Promise 20: undo. */
public final class UndoTest {
    public static void main(String[] args) {
        everyKind();
        noChanges();
        tenAtMost();
        changesBetween();
        Due.end();
    }

    private static void everyKind() {
        CueBench x = new CueBench();
        String[] seen = new String[8];
        seen[0] = Due.cues(x);
        Due.read(x, 1, "{100}{105}a b\n{107}{140}cd\n");
        seen[1] = Due.cues(x);
        Due.is("repair", x.repair() > 0, true);
        seen[2] = Due.cues(x);
        Due.is("merge", x.merge(0), 1);
        seen[3] = Due.cues(x);
        Due.is("breakLines", x.breakLines(0), 1);
        seen[4] = Due.cues(x);
        Due.is("split", x.split(0, 3), 2);
        seen[5] = Due.cues(x);
        Due.is("twoPoint", x.twoPoint(0, 0, 10, 20), true);
        seen[6] = Due.cues(x);
        Due.is("shift", x.shift(7), true);
        seen[7] = Due.cues(x);
        for (int k = 6; k >= 0; k--) {
            Due.is("each is another", seen[k].equals(seen[k + 1]), false);
            Due.is("undo", x.undo(), true);
            Due.is("undo " + k, Due.cues(x), seen[k]);
        }
        Due.is("nothing left", x.undo(), false);
    }

    /** What is refused, and what is no change, leaves nothing to be taken back. */
    private static void noChanges() {
        CueBench x = new CueBench();
        Due.fill(x, "{1}");
        x.read(1);
        x.read(9);
        x.merge(0);
        x.split(0, 0);
        x.breakLines(0);
        x.shift(Long.MAX_VALUE);
        x.twoPoint(1, 1, 1, 1);
        x.rate(50, 1);
        x.rules(1, 1, 1, 1);
        x.shot(7);
        x.write(1);
        x.put(1, 1);
        x.wipe();
        Due.is("nothing", x.undo(), false);
        Due.read(x, 1, "{100}{999}a\n");
        Due.is("repair refused", x.repair(), -10);
        Due.is("write", x.write(1), 12);
        Due.is("undo", x.undo(), true);
        Due.is("the read", x.cues(), 0);
        Due.is("the buffer stays", Due.buffer(x), "{100}{999}a\n");
        Due.is("shots stay", x.shot(7), 1);
        Due.is("nothing left", x.undo(), false);
    }

    private static void tenAtMost() {
        CueBench x = new CueBench();
        Due.read(x, 2, Due.packed(0, 5, "a"));
        for (int k = 1; k <= 25; k++) x.shift(1);
        for (int k = 24; k >= 15; k--) {
            Due.is("undo", x.undo(), true);
            Due.is("start", x.cue(0, 0), k);
        }
        Due.is("the 11th", x.undo(), false);
        Due.is("start stays", x.cue(0, 0), 15);
        Due.is("once more", x.shift(1), true);
        Due.is("that one", x.undo(), true);
        Due.is("and none before", x.undo(), false);
        Due.is("start", x.cue(0, 0), 15);
    }

    private static void changesBetween() {
        CueBench x = new CueBench();
        Due.read(x, 2, Due.packed(0, 5, "a"));
        x.shift(1);
        x.shift(10);
        x.undo();
        x.shift(100);
        Due.is("start", x.cue(0, 0), 101);
        Due.is("undo", x.undo(), true);
        Due.is("the 100", x.cue(0, 0), 1);
        Due.is("undo", x.undo(), true);
        Due.is("the 1, as the 10 was taken back", x.cue(0, 0), 0);
        Due.is("undo", x.undo(), true);
        Due.is("the read", x.cues(), 0);
        Due.is("undo", x.undo(), false);
    }
}
