/** Promise 6: every byte in every place of a cue is read as the model reads it, with and without what follows. */
public final class EveryByteTest {
    private static final String[] PLAIN = {
        "00:00:01,000 > 00:00:02,000\na\nb\n\n",
        "{1}{000002}a|b\n",
        Due.packed(1, 705600000L, "a\nb"),
    };

    public static void main(String[] args) {
        for (int form = 0; form < PLAIN.length; form++) {
            for (int place = 0; place <= PLAIN[form].length(); place++) {
                for (char b = 0; b < 256; b++) oneByte(form, place, b);
            }
        }
        Due.end();
    }

    private static void oneByte(int form, int place, char b) {
        String plain = PLAIN[form];
        String until = plain.substring(0, place) + b;
        compare(form, until);
        compare(form, until + plain.substring(place));
        if (place < plain.length()) compare(form, until + plain.substring(place + 1));
    }

    private static void compare(int form, String bytes) {
        CueBench bench = new CueBench();
        Model model = new Model();
        model.buffer = bytes;
        Due.is("read " + form + " of " + Due.shown(bytes), Due.read(bench, form, bytes), model.read(form));
        Due.is("cues of " + Due.shown(bytes), Due.cues(bench), model.allCues());
    }
}
