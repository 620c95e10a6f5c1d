import java.nio.charset.StandardCharsets;

/** What all tests use: answers that are due, and bytes put into and taken from a bench. */
final class Due {
    /** Numbers with which sums would wrap around. */
    static final int[] FAR = {Integer.MIN_VALUE, Integer.MIN_VALUE + 1, Integer.MAX_VALUE - 1, Integer.MAX_VALUE};

    private static int wrong = 0;

    private Due() {
    }

    static void is(String call, long got, long want) {
        if (got == want) return;
        wrong++;
        if (wrong <= 40) System.out.println(call + " answered " + got + ", due is " + want);
    }

    static void is(String call, boolean got, boolean want) {
        is(call, got ? 1 : 0, want ? 1 : 0);
    }

    static void is(String call, String got, String want) {
        if (got.equals(want)) return;
        wrong++;
        if (wrong <= 40) System.out.println(call + " answered <" + shown(got) + ">, due is <" + shown(want) + ">");
    }

    static String shown(String text) {
        StringBuilder all = new StringBuilder();
        for (char c : text.toCharArray()) {
            if (c >= 32 && c < 127) all.append(c);
            else all.append('\\').append((int) c).append(';');
        }
        return all.toString();
    }

    static int wrongSoFar() {
        return wrong;
    }

    static void end() {
        System.out.println(wrong == 0 ? "all answers are as due" : wrong + " answers are not as due");
        if (wrong != 0) System.exit(1);
    }

    /** Makes these the bytes of the buffer, by put alone. */
    static void fill(CueBench x, String bytes) {
        x.wipe();
        byte[] all = bytes.getBytes(StandardCharsets.ISO_8859_1);
        for (int from = 0; from < all.length; from += 8) {
            int n = Math.min(8, all.length - from);
            long word = 0;
            for (int k = n - 1; k >= 0; k--) word = word << 8 | all[from + k] & 255;
            x.put(word, n);
        }
    }

    static int read(CueBench x, int form, String bytes) {
        fill(x, bytes);
        return x.read(form);
    }

    /** A new bench that has read these bytes. */
    static CueBench with(int form, String bytes) {
        CueBench x = new CueBench();
        is("whether " + shown(bytes) + " is read in form " + form, read(x, form, bytes) >= 0, true);
        return x;
    }

    /** One cue in a form, its times in seconds below 60, which every form holds exactly (at 25 frames a second). */
    static String cue(int form, int start, int end, String text) {
        if (form == CueBench.BLOCK) {
            return String.format("00:00:%02d,000 > 00:00:%02d,000\n", start, end) + text + "\n\n";
        }
        if (form == CueBench.FRAMES) {
            return "{" + 25 * start + "}{" + 25 * end + "}" + text.replace('\n', '|') + "\n";
        }
        return packed(start * 705600000L, end * 705600000L, text);
    }

    /** How many bytes of such a cue are before its text. */
    static int before(int form, int start, int end) {
        String bytes = cue(form, start, end, "#");
        return bytes.indexOf('#');
    }

    static void taken(int form, String bytes, int cues) {
        is("read " + form + " of " + shown(bytes), read(new CueBench(), form, bytes), cues);
    }

    static void fault(int form, String bytes, int place) {
        is("read " + form + " of " + shown(bytes), read(new CueBench(), form, bytes), -10 - place);
    }

    static String buffer(CueBench x) {
        StringBuilder all = new StringBuilder();
        for (int i = 0; x.at(i) != CueBench.NONE; i++) all.append((char) x.at(i));
        return all.toString();
    }

    static String text(CueBench x, int i) {
        StringBuilder all = new StringBuilder();
        for (int j = 0; x.text(i, j) != CueBench.NONE; j++) all.append((char) x.text(i, j));
        return all.toString();
    }

    /** All cues with their times in ticks. */
    static String cues(CueBench x) {
        StringBuilder all = new StringBuilder();
        for (int i = 0; i < x.cues(); i++) {
            all.append(x.cue(i, 0)).append(' ').append(x.cue(i, 1)).append(' ').append(text(x, i)).append('/');
        }
        return all.toString();
    }

    /** All cues with their times in frames of 25 a second. */
    static String frames(CueBench x) {
        StringBuilder all = new StringBuilder();
        for (int i = 0; i < x.cues(); i++) {
            all.append(x.cue(i, 0) / 28224000.0).append(' ').append(x.cue(i, 1) / 28224000.0).append(' ');
        }
        return all.toString().trim().replace(".0", "");
    }

    static String packed(long start, long end, String text) {
        return six(start) + six(end) + (char) text.length() + text;
    }

    static String six(long time) {
        StringBuilder all = new StringBuilder();
        for (int k = 5; k >= 0; k--) all.append((char) (time >> 8 * k & 255));
        return all.toString();
    }

    static String times(String what, int n) {
        return what.repeat(n);
    }
}
