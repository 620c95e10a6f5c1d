import java.util.ArrayDeque;

/** Promise 20: undo. */
public final class UndoTest {
    public static void main(String[] args) {
        everyKind();
        noChanges();
        tenAtMost();
        changesBetween();
        anyNumberOfChanges();
        changesThatAlterNothing();
        fromFullToNoneAndBack();
        settingsAndBufferStay();
        roundAndRound();
        Due.end();
    }

    private static void everyKind() {
        CueBench x = new CueBench();
        String[] seen = new String[8];
        seen[0] = Due.cues(x);
        Due.read(x, 1, "{100}{105}a b\n{107}{140}cd\n");
        seen[1] = Due.cues(x);
        Due.is("repair", x.repair() > 0, true);
        seen[2] = Due.cues(x);
        Due.is("merge", x.merge(0), 1);
        seen[3] = Due.cues(x);
        Due.is("breakLines", x.breakLines(0), 1);
        seen[4] = Due.cues(x);
        Due.is("split", x.split(0, 3), 2);
        seen[5] = Due.cues(x);
        Due.is("twoPoint", x.twoPoint(0, 0, 10, 20), true);
        seen[6] = Due.cues(x);
        Due.is("shift", x.shift(7), true);
        seen[7] = Due.cues(x);
        for (int k = 6; k >= 0; k--) {
            Due.is("each is another", seen[k].equals(seen[k + 1]), false);
            Due.is("undo", x.undo(), true);
            Due.is("undo " + k, Due.cues(x), seen[k]);
        }
        Due.is("nothing left", x.undo(), false);
    }

    /** What is refused, and what is no change, leaves nothing to be taken back. */
    private static void noChanges() {
        CueBench x = new CueBench();
        Due.fill(x, "{1}");
        x.read(1);
        x.read(9);
        x.merge(0);
        x.split(0, 0);
        x.breakLines(0);
        x.shift(Long.MAX_VALUE);
        x.twoPoint(1, 1, 1, 1);
        x.rate(50, 1);
        x.rules(1, 1, 1, 1);
        x.shot(7);
        x.write(1);
        x.put(1, 1);
        x.wipe();
        Due.is("nothing", x.undo(), false);
        Due.read(x, 1, "{100}{999}a\n");
        Due.is("repair refused", x.repair(), -10);
        Due.is("write", x.write(1), 12);
        Due.is("undo", x.undo(), true);
        Due.is("the read", x.cues(), 0);
        Due.is("the buffer stays", Due.buffer(x), "{100}{999}a\n");
        Due.is("shots stay", x.shot(7), 1);
        Due.is("nothing left", x.undo(), false);
    }

    private static void tenAtMost() {
        CueBench x = new CueBench();
        Due.read(x, 2, Due.packed(0, 5, "a"));
        for (int k = 1; k <= 25; k++) x.shift(1);
        for (int k = 24; k >= 15; k--) {
            Due.is("undo", x.undo(), true);
            Due.is("start", x.cue(0, 0), k);
        }
        Due.is("the 11th", x.undo(), false);
        Due.is("start stays", x.cue(0, 0), 15);
        Due.is("once more", x.shift(1), true);
        Due.is("that one", x.undo(), true);
        Due.is("and none before", x.undo(), false);
        Due.is("start", x.cue(0, 0), 15);
    }

    private static void changesBetween() {
        CueBench x = new CueBench();
        Due.read(x, 2, Due.packed(0, 5, "a"));
        x.shift(1);
        x.shift(10);
        x.undo();
        x.shift(100);
        Due.is("start", x.cue(0, 0), 101);
        Due.is("undo", x.undo(), true);
        Due.is("the 100", x.cue(0, 0), 1);
        Due.is("undo", x.undo(), true);
        Due.is("the 1, as the 10 was taken back", x.cue(0, 0), 0);
        Due.is("undo", x.undo(), true);
        Due.is("the read", x.cues(), 0);
        Due.is("undo", x.undo(), false);
    }

    /** "false when there is none of the latest 10": of n changes, 10 at most. */
    private static void anyNumberOfChanges() {
        for (int n = 0; n <= 32; n++) {
            CueBench x = Due.with(2, Due.packed(0, 5, "a"));
            for (int k = 1; k < n; k++) x.shift(1);
            if (n == 0) Due.is("the read", x.undo(), true);
            int back = 0;
            while (back < 40 && x.undo()) back++;
            Due.is("taken back of " + n, back, Math.min(n, 10));
            Due.is("cues then", x.cues(), n <= 10 ? 0 : 1);
            Due.is("start then", x.cue(0, 0), n <= 10 ? CueBench.NONE : n - 11);
            Due.is("false again", x.undo(), false);
        }
    }

    /** "A CHANGE is what read, repair, .. do when they are not refused", whether or not a cue is another one then. */
    private static void changesThatAlterNothing() {
        CueBench x = new CueBench();
        Due.read(x, 1, "{100}{150}a\n");
        String before = Due.cues(x);
        x.read(1);
        Due.is("repair", x.repair(), 0);
        Due.is("breakLines", x.breakLines(0), 1);
        Due.is("twoPoint", x.twoPoint(5, 5, 6, 6), true);
        Due.is("shift", x.shift(0), true);
        for (int k = 0; k < 5; k++) {
            Due.is("as before", Due.cues(x), before);
            Due.is("undo", x.undo(), true);
        }
        Due.is("as before", Due.cues(x), before);
        Due.is("the first read", x.undo(), true);
        Due.is("no cues", x.cues(), 0);
        Due.is("nothing left", x.undo(), false);
        x.wipe();
        Due.is("read of nothing", x.read(0), 0);
        Due.is("repair of nothing", x.repair(), 0);
        Due.is("twoPoint of nothing", x.twoPoint(0, 0, 1, 1), true);
        Due.is("shift of nothing", x.shift(5), true);
        Due.is("four changes", x.undo() && x.undo() && x.undo() && x.undo() && !x.undo(), true);
    }

    private static void fromFullToNoneAndBack() {
        StringBuilder bytes = new StringBuilder();
        for (int i = 0; i < 16; i++) bytes.append(Due.packed(i, 100 + i, Due.times("" + (char) ('a' + i), 49 - i)));
        CueBench x = Due.with(2, bytes.toString());
        Due.fill(x, "");
        Due.is("read of nothing", x.read(2), 0);
        Due.is("undo", x.undo(), true);
        Due.is("cues", x.cues(), 16);
        Due.is("write", x.write(2), bytes.length());
        Due.is("written", Due.buffer(x), bytes.toString());
        Due.is("the read of all", x.undo(), true);
        Due.is("no cues", x.cues(), 0);
        Due.is("nothing left", x.undo(), false);
    }

    private static void settingsAndBufferStay() {
        CueBench x = Due.with(1, "{100}{110}a\n{111}{121}b\n");
        x.rate(50, 1);
        x.rules(0, 1, 400, 60);
        x.shot(7);
        x.wipe();
        x.put(0x434241, 3);
        Due.is("undo", x.undo(), true);
        Due.is("the buffer", Due.buffer(x), "ABC");
        Due.is("the shots", x.shot(8), 2);
        Due.read(x, 1, "{100}{110}a\n{110}{121}b\n");
        Due.is("the rate", x.cue(0, 0), 1411200000L);
        Due.is("the rules", x.repair(), 0);
    }

    /** Changes and undos in turns, so that what is kept runs through all its places more than once. */
    private static void roundAndRound() {
        CueBench x = Due.with(2, Due.packed(0, 5, "a"));
        ArrayDeque<Long> past = new ArrayDeque<>();
        past.push((long) CueBench.NONE);
        long start = 0;
        for (int k = 0; k < 150; k++) {
            if (k % 7 < 4 + k / 50) {
                Due.is("shift", x.shift(k), true);
                past.push(start);
                if (past.size() > 10) past.removeLast();
                start += k;
            } else {
                Due.is("undo", x.undo(), !past.isEmpty());
                if (!past.isEmpty()) start = past.pop();
            }
            Due.is("start", x.cue(0, 0), start);
        }
        while (!past.isEmpty()) {
            Due.is("undo at the end", x.undo(), true);
            Due.is("start", x.cue(0, 0), past.pop());
        }
        Due.is("nothing left", x.undo(), false);
    }
}
