import java.util.ArrayList;
import java.util.List;

/**
 * Two benches made by the same calls, of which one sees a call more that must change nothing: whatever is asked of
 * both must be answered the same. Every question is asked of new twins, so that no bench sees more than 512 calls.
 */
final class Twins {
    interface Calls {
        void on(CueBench x);
    }

    interface Call {
        long on(CueBench x);
    }

    interface Question {
        String of(CueBench x);
    }

    private static final List<Question> QUESTIONS = new ArrayList<>();

    static {
        QUESTIONS.add(x -> bytes(x, 0));
        QUESTIONS.add(x -> bytes(x, 350));
        QUESTIONS.add(x -> bytes(x, 700));
        for (int half = 0; half < 4; half++) {
            int from = 4 * half;
            QUESTIONS.add(x -> texts(x, from));
        }
        QUESTIONS.add(Twins::numbers);
        QUESTIONS.add(Twins::past);
        QUESTIONS.add(Twins::shots);
        QUESTIONS.add(Twins::rateAndRules);
    }

    private Twins() {
    }

    /** The call must answer what is due, and change nothing. */
    static void unchanged(String what, Calls made, Call call, long due) {
        for (Question question : QUESTIONS) {
            CueBench one = new CueBench();
            CueBench other = new CueBench();
            made.on(one);
            made.on(other);
            Due.is(what, call.on(one), due);
            Due.is("what can be asked after " + what, question.of(one), question.of(other));
        }
    }

    private static String bytes(CueBench x, int from) {
        StringBuilder all = new StringBuilder();
        for (int i = from; i < from + 350; i++) all.append(x.at(i)).append(' ');
        return all.toString();
    }

    private static String texts(CueBench x, int from) {
        StringBuilder all = new StringBuilder();
        for (int i = from; i < from + 4; i++) {
            for (int j = 0; j <= 64; j++) all.append(x.text(i, j)).append(' ');
        }
        return all.toString();
    }

    private static String numbers(CueBench x) {
        StringBuilder all = new StringBuilder();
        all.append(x.cues()).append(' ').append(x.clash());
        for (int i = 0; i <= 16; i++) {
            for (int what = 0; what < 5; what++) all.append(' ').append(x.cue(i, what));
        }
        return all.toString();
    }

    private static String past(CueBench x) {
        StringBuilder all = new StringBuilder();
        for (int k = 0; k < 12; k++) {
            all.append(x.undo()).append(' ').append(x.cues());
            for (int i = 0; i < 3; i++) all.append(' ').append(x.cue(i, 0)).append(' ').append(x.cue(i, 1));
            all.append(' ').append(x.cue(0, 2)).append('/');
        }
        return all.toString();
    }

    private static String shots(CueBench x) {
        StringBuilder all = new StringBuilder();
        for (int frame = 0; frame <= 100; frame++) all.append(x.shot(frame)).append(' ');
        for (int frame = 215999; frame <= 216001; frame++) all.append(x.shot(frame)).append(' ');
        return all.toString();
    }

    /** What the rate and each of the rules lead to: a frame's ticks, and repairs that one rule alone asks for. */
    private static String rateAndRules(CueBench x) {
        StringBuilder all = new StringBuilder();
        String[] probes = {
            "{1000}{1001}a\n", "{1000}{1050}a\n", "{1000}{1430}a\n", "{1000}{1220}a\n", "{1000}{1130}a\n",
            "{1000}{1025}" + Due.times("y", 30) + "\n", "{1000}{1110}" + Due.times("y", 64) + "\n",
            "{1000}{1110}a\n{1111}{1220}b\n", "{10}{60}a\n{61}{95}b\n"
        };
        for (String probe : probes) {
            Due.fill(x, probe);
            all.append(x.read(CueBench.FRAMES)).append(' ').append(x.cue(0, 0)).append(' ').append(x.repair());
            for (int i = 0; i < 2; i++) all.append(' ').append(x.cue(i, 0)).append(' ').append(x.cue(i, 1));
            all.append('/');
        }
        return all.toString();
    }
}
