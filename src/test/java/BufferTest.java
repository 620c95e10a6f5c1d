/** Promises 1 to 4: a new object, put, wipe, at. */
public final class BufferTest {
    public static void main(String[] args) {
        newObject();
        putTakesTheLowestBytes();
        putRefuses();
        wipeEmpties();
        Due.end();
    }

    private static void newObject() {
        CueBench x = new CueBench();
        Due.is("at(0) of a new one", x.at(0), CueBench.NONE);
        Due.is("wipe() of a new one", x.wipe(), 0);
        Due.is("cues() of a new one", x.cues(), 0);
        Due.is("undo() of a new one", x.undo(), false);
        Due.is("shot(5), the first one", x.shot(5), 1);
        Due.is("read at the first rate", Due.read(x, 1, "{1}{2}a\n"), 1);
        Due.is("one frame at the first rate", x.cue(0, 0), 28224000);
    }

    private static void putTakesTheLowestBytes() {
        CueBench x = new CueBench();
        Due.is("put 3", x.put(0x1122334455667788L, 3), 3);
        Due.is("at(0)", x.at(0), 0x88);
        Due.is("at(1)", x.at(1), 0x77);
        Due.is("at(2)", x.at(2), 0x66);
        Due.is("at(3)", x.at(3), CueBench.NONE);
        Due.is("put 8", x.put(-2L, 8), 11);
        Due.is("at(3)", x.at(3), 0xfe);
        Due.is("at(10)", x.at(10), 255);
        Due.is("at(-1)", x.at(-1), CueBench.NONE);
        Due.is("at(1000)", x.at(1000), CueBench.NONE);
        Due.is("at(MIN)", x.at(Integer.MIN_VALUE), CueBench.NONE);
        Due.is("at(MAX)", x.at(Integer.MAX_VALUE), CueBench.NONE);
    }

    private static void putRefuses() {
        CueBench x = new CueBench();
        Due.is("put 0", x.put(1, 0), CueBench.BAD);
        Due.is("put 9", x.put(1, 9), CueBench.BAD);
        Due.is("put -1", x.put(1, -1), CueBench.BAD);
        Due.is("put MAX", x.put(1, Integer.MAX_VALUE), CueBench.BAD);
        for (int k = 1; k <= 124; k++) Due.is("put 8", x.put(k, 8), 8 * k);
        Due.is("put 7", x.put(1, 7), 999);
        Due.is("put 2 of 1 left", x.put(1, 2), CueBench.FULL);
        Due.is("put 9 of 1 left", x.put(1, 9), CueBench.BAD);
        Due.is("put 1 of 1 left", x.put(77, 1), 1000);
        Due.is("at(999)", x.at(999), 77);
        Due.is("at(1000)", x.at(1000), CueBench.NONE);
        Due.is("put 1 of none left", x.put(1, 1), CueBench.FULL);
        Due.is("put 0 of none left", x.put(1, 0), CueBench.BAD);
        Due.is("wipe", x.wipe(), 1000);
    }

    private static void wipeEmpties() {
        CueBench x = new CueBench();
        x.put(5, 4);
        Due.is("wipe", x.wipe(), 4);
        Due.is("at(0)", x.at(0), CueBench.NONE);
        Due.is("wipe again", x.wipe(), 0);
        Due.is("put", x.put(6, 1), 1);
        Due.is("undo takes no bytes back", x.undo(), false);
    }
}
