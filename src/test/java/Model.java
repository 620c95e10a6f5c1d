import java.math.BigInteger;
import java.util.ArrayList;
import java.util.HashMap;
import java.util.List;
import java.util.Map;
import java.util.TreeSet;
import java.util.regex.Matcher;
import java.util.regex.Pattern;

/** A slow second bench that follows the words of the document, without any of the class's short cuts. */
final class Model {
    private static final long LAST = 3600L * 705600000L;
    private static final String TIME = "([0-5]\\d):([0-5]\\d):([0-5]\\d),(\\d\\d\\d)";
    private static final Pattern BLOCK = Pattern.compile(TIME + " > " + TIME + "\n(.*)\n\n", Pattern.DOTALL);
    private static final Pattern FRAMES = Pattern.compile("\\{(\\d{1,6})\\}\\{(\\d{1,6})\\}([^\n]*)\n");

    record Cue(long start, long end, String text) {
    }

    String buffer = "";
    private List<Cue> cues = new ArrayList<>();
    private final List<List<Cue>> past = new ArrayList<>();
    private final TreeSet<Integer> shots = new TreeSet<>();
    private int num = 25, den = 1, gap = 2, least = 20, most = 168, speed = 17;

    long frame() {
        return 705600000L * den / num;
    }

    static long nearest(BigInteger top, BigInteger bottom) {
        BigInteger[] parts = top.divideAndRemainder(bottom);
        BigInteger low = parts[0];
        if (parts[1].signum() < 0) low = low.subtract(BigInteger.ONE);
        BigInteger above = top.subtract(low.multiply(bottom));
        int order = above.compareTo(bottom.subtract(above));
        boolean up = order > 0 || order == 0 && low.testBit(0);
        return low.add(up ? BigInteger.ONE : BigInteger.ZERO).longValueExact();
    }

    static long nearest(long top, long bottom) {
        return nearest(BigInteger.valueOf(top), BigInteger.valueOf(bottom));
    }

    static int cells(String text) {
        int all = 0;
        for (char c : text.toCharArray()) {
            if (c >= 32 && c <= 126) all += 1;
            if (c >= 128 && c <= 191) all += 2;
        }
        return all;
    }

    static boolean isText(String text) {
        if (text.length() < 1 || text.length() > 64) return false;
        for (char c : text.toCharArray()) {
            boolean fine = c == 10 || c >= 32 && c <= 126 || c >= 128 && c <= 255;
            if (!fine || c == 124) return false;
        }
        for (String line : text.split("\n", -1)) {
            if (line.isEmpty()) return false;
        }
        return true;
    }

    private void change(List<Cue> now) {
        past.add(cues);
        if (past.size() > 10) past.remove(0);
        cues = now;
    }

    int put(long bytes, int n) {
        if (n < 1 || n > 8) return -2;
        if (buffer.length() + n > 1000) return -3;
        for (int k = 0; k < n; k++) buffer += (char) (bytes >> 8 * k & 255);
        return buffer.length();
    }

    int wipe() {
        int had = buffer.length();
        buffer = "";
        return had;
    }

    boolean rate(int n, int d) {
        if (n < 1 || n > 120000 || d < 1 || d > 1001) return false;
        if (705600000L * d % n != 0 || n < d || n > 60L * d) return false;
        num = n;
        den = d;
        return true;
    }

    /** The cue that these bytes are, from the first to the last; null when they are none. */
    private Cue whole(int form, String s) {
        if (form == 0) {
            Matcher m = BLOCK.matcher(s);
            if (!m.matches() || !isText(m.group(9))) return null;
            return new Cue(blockTime(m, 1), blockTime(m, 5), m.group(9));
        }
        if (form == 1) {
            Matcher m = FRAMES.matcher(s);
            if (!m.matches() || !isText(m.group(3).replace('|', '\n'))) return null;
            String text = m.group(3).replace('|', '\n');
            return new Cue(Long.parseLong(m.group(1)) * frame(), Long.parseLong(m.group(2)) * frame(), text);
        }
        if (s.length() < 14 || s.length() != 13 + s.charAt(12) || !isText(s.substring(13))) return null;
        return new Cue(packedTime(s, 0), packedTime(s, 6), s.substring(13));
    }

    private static long blockTime(Matcher m, int group) {
        long seconds = Long.parseLong(m.group(group)) * 3600 + Long.parseLong(m.group(group + 1)) * 60
            + Long.parseLong(m.group(group + 2));
        return (seconds * 1000 + Long.parseLong(m.group(group + 3))) * 705600;
    }

    private static long packedTime(String s, int from) {
        long all = 0;
        for (int k = 0; k < 6; k++) all = all * 256 + s.charAt(from + k);
        return all;
    }

    /** Whether bytes behind these could make a cue: some rest of a plain cue must do it then. */
    private boolean couldBecome(int form, String s) {
        String plain = form == 0 ? "00:00:00,000 > 00:00:00,000\nx\n\n" : form == 1 ? "{0}{0}x\n"
            : "\0".repeat(12) + "\1x";
        for (int from = 0; from <= plain.length(); from++) {
            if (whole(form, s + plain.substring(from)) != null) return true;
        }
        if (form != 2 || s.length() < 13) return false;
        int lacking = 13 + s.charAt(12) - s.length();
        return lacking >= 0 && whole(2, s + "x".repeat(lacking)) != null;
    }

    int read(int form) {
        if (form < 0 || form > 2) return -2;
        List<Cue> found = new ArrayList<>();
        int first = 0;
        for (int behind = 1; behind <= buffer.length(); behind++) {
            String s = buffer.substring(first, behind);
            Cue cue = whole(form, s);
            if (cue == null && !couldBecome(form, s)) return -10 - (behind - 1);
            if (cue == null) continue;
            boolean early = !found.isEmpty() && cue.start() < found.get(found.size() - 1).start();
            boolean late = cue.start() > LAST || cue.end() > LAST;
            if (cue.end() <= cue.start() || early || late || found.size() == 16) return -10 - first;
            found.add(cue);
            first = behind;
        }
        if (first < buffer.length()) return -10 - buffer.length();
        change(found);
        return found.size();
    }

    int write(int form) {
        if (form < 0 || form > 2) return -2;
        StringBuilder all = new StringBuilder();
        for (Cue c : cues) {
            if (form == 0) {
                all.append(clock(c.start())).append(" > ").append(clock(c.end())).append('\n');
                all.append(c.text()).append("\n\n");
            } else if (form == 1) {
                all.append('{').append(nearest(c.start(), frame())).append("}{").append(nearest(c.end(), frame()));
                all.append('}').append(c.text().replace('\n', '|')).append('\n');
            } else {
                all.append(Due.packed(c.start(), c.end(), c.text()));
            }
        }
        if (all.length() > 1000) return -3;
        buffer = all.toString();
        return buffer.length();
    }

    private static String clock(long time) {
        long ms = nearest(time, 705600);
        return String.format("%02d:%02d:%02d,%03d", ms / 3600000, ms / 60000 % 60, ms / 1000 % 60, ms % 1000);
    }

    int cues() {
        return cues.size();
    }

    String allCues() {
        StringBuilder all = new StringBuilder();
        for (Cue c : cues) {
            all.append(c.start()).append(' ').append(c.end()).append(' ').append(c.text()).append('/');
        }
        return all.toString();
    }

    long cue(int i, int what) {
        if (i < 0 || i >= cues.size()) return -1;
        Cue c = cues.get(i);
        if (what == 0) return c.start();
        if (what == 1) return c.end();
        if (what == 2) return c.text().length();
        if (what == 3) return c.text().split("\n").length;
        return what == 4 ? cells(c.text()) : -1;
    }

    int shot(int frame) {
        if (frame < 0 || frame > 216000) return -2;
        if (shots.size() == 20 && !shots.contains(frame)) return -3;
        shots.add(frame);
        return shots.size();
    }

    boolean rules(int g, int l, int m, int s) {
        if (g < 0 || g > 20 || l < 1 || l > 100 || m < l || m > 400 || s < 1 || s > 60) return false;
        gap = g;
        least = l;
        most = m;
        speed = s;
        return true;
    }

    /** A sum and the frames that reach it. */
    record Way(int sum, List<Integer> frames) {
        boolean betterThan(Way other) {
            if (other == null || sum != other.sum) return other == null || sum < other.sum;
            for (int k = 0; k < frames.size(); k++) {
                int order = Integer.compare(frames.get(k), other.frames.get(k));
                if (order != 0) return order < 0;
            }
            return false;
        }
    }

    private boolean legal(Cue c, int start, int end) {
        if (start < 0 || end * frame() > LAST) return false;
        if (end - start < least || end - start > most) return false;
        if ((long) cells(c.text()) * num > (long) speed * (end - start) * den) return false;
        boolean near = false;
        boolean two = false;
        for (int s : shots) {
            near |= Math.abs(s - end) <= 7;
            two |= end == s - 2;
        }
        return !near || two;
    }

    /** The best way for the cues from i to n - 1 behind a floor. */
    private Way best(int i, int n, int floor, Map<Long, Way> known) {
        if (i == n) return new Way(0, List.of());
        long key = i * 1000000L + floor;
        if (known.containsKey(key)) return known.get(key);
        Cue c = cues.get(i);
        int nearStart = (int) nearest(c.start(), frame());
        int nearEnd = (int) nearest(c.end(), frame());
        Way best = null;
        for (int start = Math.max(floor, nearStart - 12); start <= nearStart + 12; start++) {
            for (int end = nearEnd - 48; end <= nearEnd + 48; end++) {
                int own = Math.abs(start - nearStart) + Math.abs(end - nearEnd);
                if (best != null && own > best.sum() || !legal(c, start, end)) continue;
                Way rest = best(i + 1, n, end + gap, known);
                if (rest == null || best != null && own + rest.sum() > best.sum()) continue;
                List<Integer> frames = new ArrayList<>(List.of(start, end));
                frames.addAll(rest.frames());
                Way way = new Way(own + rest.sum(), frames);
                if (way.betterThan(best)) best = way;
            }
        }
        known.put(key, best);
        return best;
    }

    int repair() {
        Way way = best(0, cues.size(), 0, new HashMap<>());
        if (way == null) {
            int i = 0;
            while (best(0, i + 1, 0, new HashMap<>()) != null) i++;
            return -10 - i;
        }
        List<Cue> now = new ArrayList<>();
        for (int i = 0; i < cues.size(); i++) {
            long start = way.frames().get(2 * i) * frame();
            now.add(new Cue(start, way.frames().get(2 * i + 1) * frame(), cues.get(i).text()));
        }
        change(now);
        return way.sum();
    }

    int breakLines(int i) {
        if (i < 0 || i >= cues.size()) return -2;
        String text = cues.get(i).text().replace('\n', ' ');
        if (cells(text) <= 28) {
            retext(i, text);
            return 1;
        }
        String best = null;
        for (int j = 0; j < text.length(); j++) {
            String broken = null;
            if (text.charAt(j) == ' ') broken = text.substring(0, j) + "\n" + text.substring(j + 1);
            if (text.charAt(j) == '-' && text.length() < 64) {
                broken = text.substring(0, j + 1) + "\n" + text.substring(j + 1);
            }
            if (broken != null && fits(broken) && (best == null || evener(broken, best))) best = broken;
        }
        if (best == null) return -1;
        retext(i, best);
        return 2;
    }

    private static boolean fits(String broken) {
        String[] lines = broken.split("\n", -1);
        return !lines[0].isEmpty() && !lines[1].isEmpty() && cells(lines[0]) <= 28 && cells(lines[1]) <= 28;
    }

    private static boolean evener(String broken, String best) {
        String[] a = broken.split("\n");
        String[] b = best.split("\n");
        int differenceA = Math.abs(cells(a[0]) - cells(a[1]));
        int differenceB = Math.abs(cells(b[0]) - cells(b[1]));
        if (differenceA != differenceB) return differenceA < differenceB;
        return cells(a[1]) > cells(b[1]);
    }

    private void retext(int i, String text) {
        List<Cue> now = new ArrayList<>(cues);
        now.set(i, new Cue(cues.get(i).start(), cues.get(i).end(), text));
        change(now);
    }

    private long mapped(long t, long[] p) {
        BigInteger f = BigInteger.valueOf(frame());
        BigInteger run = BigInteger.valueOf(p[2] - p[0]);
        BigInteger top = BigInteger.valueOf(p[1]).multiply(f).multiply(run).add(
            BigInteger.valueOf(t - p[0] * frame()).multiply(BigInteger.valueOf(p[3] - p[1])));
        BigInteger bottom = f.multiply(run);
        if (bottom.signum() < 0) return nearest(top.negate(), bottom.negate()) * frame();
        return nearest(top, bottom) * frame();
    }

    boolean twoPoint(int a, int a2, int b, int b2) {
        long[] p = {a, a2, b, b2};
        for (long f : p) {
            if (f < 0 || f * frame() > LAST) return false;
        }
        if (a == b || (long) (b2 - a2) * (b - a) <= 0) return false;
        List<Cue> now = new ArrayList<>();
        for (Cue c : cues) {
            Cue to = new Cue(mapped(c.start(), p), mapped(c.end(), p), c.text());
            if (to.start() < 0 || to.end() < 0 || to.start() > LAST || to.end() > LAST) return false;
            if (to.end() <= to.start()) return false;
            now.add(to);
        }
        change(now);
        return true;
    }

    boolean shift(long ticks) {
        if (ticks < -LAST || ticks > LAST) return false;
        List<Cue> now = new ArrayList<>();
        for (Cue c : cues) {
            if (c.start() + ticks < 0 || c.end() + ticks > LAST) return false;
            now.add(new Cue(c.start() + ticks, c.end() + ticks, c.text()));
        }
        change(now);
        return true;
    }

    int merge(int i) {
        if (i < 0 || i >= cues.size() - 1) return -2;
        Cue a = cues.get(i);
        Cue b = cues.get(i + 1);
        String text = a.text() + "\n" + b.text();
        if (text.length() > 64) return -3;
        List<Cue> now = new ArrayList<>(cues);
        now.remove(i + 1);
        now.set(i, new Cue(a.start(), Math.max(a.end(), b.end()), text));
        change(now);
        return cues.size();
    }

    int split(int i, int j) {
        if (i < 0 || i >= cues.size()) return -2;
        Cue c = cues.get(i);
        if (j < 1 || j > c.text().length() - 1) return -2;
        String a = c.text().substring(0, j);
        String b = c.text().substring(c.text().charAt(j) == '\n' ? j + 1 : j);
        if (!isText(a) || !isText(b)) return -2;
        long first = cells(a) + cells(b) == 0 ? 1 : cells(a);
        long all = cells(a) + cells(b) == 0 ? 2 : cells(a) + cells(b);
        long middle = nearest(c.start() * all + (c.end() - c.start()) * first, all);
        if (middle <= c.start() || c.end() <= middle) return -2;
        if (i + 1 < cues.size() && cues.get(i + 1).start() < middle) return -2;
        if (cues.size() == 16) return -3;
        List<Cue> now = new ArrayList<>(cues);
        now.set(i, new Cue(c.start(), middle, a));
        now.add(i + 1, new Cue(middle, c.end(), b));
        change(now);
        return cues.size();
    }

    int clash() {
        for (int i = 0; i < cues.size(); i++) {
            for (int k = i + 1; k < cues.size(); k++) {
                if (cues.get(i).end() > cues.get(k).start()) return i;
            }
        }
        return -1;
    }

    boolean undo() {
        if (past.isEmpty()) return false;
        cues = past.remove(past.size() - 1);
        return true;
    }
}
