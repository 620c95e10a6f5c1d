/** A bench for subtitles: cues are read, written, timed, broken into lines, joined, split and taken back. */
public final class CueBench {
    public static final int NONE = -1, BAD = -2, FULL = -3;
    public static final int BLOCK = 0, FRAMES = 1, PACKED = 2;
    public static final long LAST = 2540160000000L;

    private static final long SECOND = 705600000L, THOUSANDTH = 705600L;
    private static final int MOST_CUES = 16, MOST_TEXT = 64, MOST_BYTES = 1000, LINE_CELLS = 28;
    private static final int BREAK = 10, BLANK = 32, HYPHEN = 45, BAR = 124;

    private final Buffer buffer;
    private final FrameRate frameRate;
    private final RuleSet ruleSet;
    private final CueRow row;
    private final Past past;
    private final FormReader reader;
    private final FormWriter writer;
    private final LineBreaker breaker;
    private final Repairer repairer;

    public CueBench() {
        buffer = new Buffer();
        frameRate = new FrameRate();
        ruleSet = new RuleSet();
        row = new CueRow();
        past = new Past();
        reader = new FormReader(buffer, frameRate);
        writer = new FormWriter(buffer, frameRate, row);
        breaker = new LineBreaker(row);
        repairer = new Repairer(row, frameRate, ruleSet);
    }

    public int put(long bytes, int n) {
        if (n < 1 || n > 8) return BAD;
        if (buffer.size + n > MOST_BYTES) return FULL;
        for (int k = 0; k < n; k++) buffer.add((int) (bytes >>> (8 * k)) & 255);
        return buffer.size;
    }

    public int wipe() {
        int had = buffer.size;
        buffer.size = 0;
        return had;
    }

    public int at(int i) {
        return buffer.look(i);
    }

    public boolean rate(int num, int den) {
        return frameRate.change(num, den);
    }

    public int read(int form) {
        if (!isForm(form)) return BAD;
        int fault = reader.findFault(form);
        if (fault != NONE) return -10 - fault;
        past.keep(row);
        row.copyFrom(reader.found);
        return row.count;
    }

    public int write(int form) {
        if (!isForm(form)) return BAD;
        if (writer.length(form) > MOST_BYTES) return FULL;
        writer.fill(form);
        return buffer.size;
    }

    public int cues() {
        return row.count;
    }

    public long cue(int i, int what) {
        if (!row.has(i)) return NONE;
        switch (what) {
            case 0: return row.starts[i];
            case 1: return row.ends[i];
            case 2: return row.sizes[i];
            case 3: return row.lines(i);
            case 4: return row.cells(i, 0, row.sizes[i]);
            default: return NONE;
        }
    }

    public int text(int i, int j) {
        if (!row.has(i) || j < 0 || j >= row.sizes[i]) return NONE;
        return row.byteAt(i, j);
    }

    public int shot(int frame) {
        return ruleSet.addShot(frame);
    }

    public boolean rules(int gap, int least, int most, int speed) {
        return ruleSet.change(gap, least, most, speed);
    }

    public int repair() {
        int sum = repairer.leastSum();
        if (sum >= Repairer.NEVER) return -10 - repairer.firstStuck();
        past.keep(row);
        repairer.take();
        return sum;
    }

    public int breakLines(int i) {
        if (!row.has(i)) return BAD;
        if (row.cellsAsOneLine(i) <= LINE_CELLS) {
            past.keep(row);
            row.joinLines(i);
            return 1;
        }
        int place = breaker.bestPlace(i);
        if (place == NONE) return NONE;
        past.keep(row);
        row.joinLines(i);
        row.breakAt(i, place);
        return 2;
    }

    public boolean twoPoint(int a, int a2, int b, int b2) {
        if (!frameRate.holds(a) || !frameRate.holds(a2)) return false;
        if (!frameRate.holds(b) || !frameRate.holds(b2)) return false;
        if (a == b || a2 == b2 || (a < b) != (a2 < b2)) return false;
        // Both points may be given in either order; the map is the same.
        PointMap map = a < b ? new PointMap(frameRate.ticks, a, a2, b, b2)
                             : new PointMap(frameRate.ticks, b, b2, a, a2);
        for (int i = 0; i < row.count; i++) {
            long start = map.of(row.starts[i]);
            long end = map.of(row.ends[i]);
            if (start < 0 || end > LAST || end <= start) return false;
        }
        past.keep(row);
        for (int i = 0; i < row.count; i++) {
            row.starts[i] = map.of(row.starts[i]);
            row.ends[i] = map.of(row.ends[i]);
        }
        return true;
    }

    public boolean shift(long ticks) {
        if (ticks < -LAST || ticks > LAST) return false;
        for (int i = 0; i < row.count; i++) {
            if (row.starts[i] + ticks < 0 || row.ends[i] + ticks > LAST) return false;
        }
        past.keep(row);
        for (int i = 0; i < row.count; i++) {
            row.starts[i] += ticks;
            row.ends[i] += ticks;
        }
        return true;
    }

    public int merge(int i) {
        if (!row.has(i) || i + 1 >= row.count) return BAD;
        if (row.sizes[i] + 1 + row.sizes[i + 1] > MOST_TEXT) return FULL;
        past.keep(row);
        row.joinWithNext(i);
        return row.count;
    }

    public int split(int i, int j) {
        if (!row.has(i) || j < 1 || j >= row.sizes[i]) return BAD;
        if (row.byteAt(i, j - 1) == BREAK) return BAD;
        long middle = row.timeBefore(i, j);
        if (middle <= row.starts[i] || middle >= row.ends[i]) return BAD;
        if (i + 1 < row.count && row.starts[i + 1] < middle) return BAD;
        if (row.count == MOST_CUES) return FULL;
        past.keep(row);
        row.part(i, j, middle);
        return row.count;
    }

    public int clash() {
        // Starts never fall, so the next cue is the first of all later ones to start.
        for (int i = 0; i + 1 < row.count; i++) {
            if (row.ends[i] > row.starts[i + 1]) return i;
        }
        return NONE;
    }

    public boolean undo() {
        return past.takeBack(row);
    }

    private static boolean isForm(int form) {
        return form == BLOCK || form == FRAMES || form == PACKED;
    }

    /** The nearest whole number to top / bottom, of two as near the even one; bottom is above 0. */
    private static long nearest(long top, long bottom) {
        long below = Math.floorDiv(top, bottom);
        long twice = 2 * (top - below * bottom);
        boolean up = twice > bottom || twice == bottom && (below & 1) == 1;
        return up ? below + 1 : below;
    }

    private static int cellsOf(int b) {
        if (b >= 32 && b <= 126) return 1;
        return b >= 128 && b <= 191 ? 2 : 0;
    }

    /** The row of bytes that forms are read from and written to. */
    private static final class Buffer {
        private final int[] bytes = new int[MOST_BYTES];
        private int size;

        void add(int b) {
            if (size < MOST_BYTES) bytes[size++] = b;
        }

        int look(int i) {
            return i >= 0 && i < size ? bytes[i] : NONE;
        }
    }

    /** Frames a second, and what a frame is in ticks. */
    private static final class FrameRate {
        private int num = 25;
        private int den = 1;
        private long ticks = SECOND / 25;

        boolean change(int newNum, int newDen) {
            if (newNum < 1 || newNum > 120000 || newDen < 1 || newDen > 1001) return false;
            if (SECOND * newDen % newNum != 0) return false;
            if (newNum < newDen || newNum > 60 * newDen) return false;
            num = newNum;
            den = newDen;
            ticks = SECOND * newDen / newNum;
            return true;
        }

        boolean holds(int frame) {
            return frame >= 0 && frame * ticks <= LAST;
        }

        int nearestFrame(long time) {
            return (int) nearest(time, ticks);
        }
    }

    /** The line through two points, both given in frames, that times are mapped by. */
    private static final class PointMap {
        private final long ticks, from, to, run, rise;

        PointMap(long ticks, int a, int a2, int b, int b2) {
            this.ticks = ticks;
            from = a;
            to = a2;
            run = b - a;
            rise = b2 - a2;
        }

        long of(long time) {
            // Every factor is at most an hour in frames or in ticks, so the sum stays below 2^61.
            long top = to * ticks * run + (time - from * ticks) * rise;
            return nearest(top, ticks * run) * ticks;
        }
    }

    /** The cues: times, and texts in places of equal size so that no call has to make any. */
    private static final class CueRow {
        private final long[] starts = new long[MOST_CUES];
        private final long[] ends = new long[MOST_CUES];
        private final int[] sizes = new int[MOST_CUES];
        private final int[] bytes = new int[MOST_CUES * MOST_TEXT];
        private int count;

        boolean has(int i) {
            return i >= 0 && i < count;
        }

        int byteAt(int i, int j) {
            return bytes[i * MOST_TEXT + j];
        }

        int lines(int i) {
            int lines = 1;
            for (int j = 0; j < sizes[i]; j++) {
                if (byteAt(i, j) == BREAK) lines++;
            }
            return lines;
        }

        int cells(int i, int from, int to) {
            int cells = 0;
            for (int j = from; j < to; j++) cells += cellsOf(byteAt(i, j));
            return cells;
        }

        int cellsAsOneLine(int i) {
            return cells(i, 0, sizes[i]) + lines(i) - 1;
        }

        void copyFrom(CueRow other) {
            count = other.count;
            System.arraycopy(other.starts, 0, starts, 0, count);
            System.arraycopy(other.ends, 0, ends, 0, count);
            System.arraycopy(other.sizes, 0, sizes, 0, count);
            System.arraycopy(other.bytes, 0, bytes, 0, count * MOST_TEXT);
        }

        boolean add(long start, long end, int[] text, int size) {
            if (count == MOST_CUES || end <= start || end > LAST) return false;
            if (count > 0 && start < starts[count - 1]) return false;
            starts[count] = start;
            ends[count] = end;
            sizes[count] = size;
            System.arraycopy(text, 0, bytes, count * MOST_TEXT, size);
            count++;
            return true;
        }

        void joinLines(int i) {
            for (int j = 0; j < sizes[i]; j++) {
                if (byteAt(i, j) == BREAK) bytes[i * MOST_TEXT + j] = BLANK;
            }
        }

        /** Breaks a text at the blank, or behind the hyphen, at a place; room for a hyphen's break is sure. */
        void breakAt(int i, int place) {
            int here = i * MOST_TEXT + place;
            if (bytes[here] == HYPHEN) {
                here++;
                System.arraycopy(bytes, here, bytes, here + 1, sizes[i] - place - 1);
                sizes[i]++;
            }
            bytes[here] = BREAK;
        }

        void joinWithNext(int i) {
            int behind = i * MOST_TEXT + sizes[i];
            bytes[behind] = BREAK;
            System.arraycopy(bytes, (i + 1) * MOST_TEXT, bytes, behind + 1, sizes[i + 1]);
            sizes[i] += 1 + sizes[i + 1];
            ends[i] = Math.max(ends[i], ends[i + 1]);
            move(i + 2, i + 1);
            count--;
        }

        /** The time that parts a cue before byte j as the cells of both parts ask. */
        long timeBefore(int i, int j) {
            long first = cells(i, 0, j);
            long all = cells(i, 0, sizes[i]);
            if (all == 0) {
                first = 1;
                all = 2;
            }
            return nearest(starts[i] * all + (ends[i] - starts[i]) * first, all);
        }

        void part(int i, int j, long middle) {
            int from = byteAt(i, j) == BREAK ? j + 1 : j;
            int size = sizes[i] - from;
            move(i + 1, i + 2);
            count++;
            starts[i + 1] = middle;
            ends[i + 1] = ends[i];
            sizes[i + 1] = size;
            System.arraycopy(bytes, i * MOST_TEXT + from, bytes, (i + 1) * MOST_TEXT, size);
            ends[i] = middle;
            sizes[i] = j;
        }

        private void move(int from, int to) {
            int moved = count - from;
            System.arraycopy(starts, from, starts, to, moved);
            System.arraycopy(ends, from, ends, to, moved);
            System.arraycopy(sizes, from, sizes, to, moved);
            System.arraycopy(bytes, from * MOST_TEXT, bytes, to * MOST_TEXT, moved * MOST_TEXT);
        }
    }

    /** The cues as they were before each of the latest changes, in a ring. */
    private static final class Past {
        private static final int MOST_KEPT = 10;

        private final CueRow[] kept = new CueRow[MOST_KEPT];
        private int next;
        private int count;

        void keep(CueRow row) {
            // Rows are made when first needed, as most objects see few changes.
            if (kept[next] == null) kept[next] = new CueRow();
            kept[next].copyFrom(row);
            next = (next + 1) % MOST_KEPT;
            if (count < MOST_KEPT) count++;
        }

        boolean takeBack(CueRow row) {
            int latest = (next + MOST_KEPT - 1) % MOST_KEPT;
            if (count == 0 || kept[latest] == null) return false;
            row.copyFrom(kept[latest]);
            next = latest;
            count--;
            return true;
        }
    }

    /** Reads the buffer; each step answers whether the bytes were as said, and else stays at the fault. */
    private static final class FormReader {
        private final Buffer buffer;
        private final FrameRate frameRate;
        private final CueRow found = new CueRow();
        private final int[] letters = new int[MOST_TEXT];
        private int size;
        private boolean broken;
        private int place;
        private long time;
        private long start;
        private long end;

        FormReader(Buffer buffer, FrameRate frameRate) {
            this.buffer = buffer;
            this.frameRate = frameRate;
        }

        int findFault(int form) {
            found.count = 0;
            place = 0;
            // One more cue than may be there is read, as it may have a fault of its own behind its first byte.
            for (int k = 0; k <= MOST_CUES && place < buffer.size; k++) {
                int first = place;
                size = 0;
                broken = false;
                if (!takeCue(form)) return place;
                if (!found.add(start, end, letters, size)) return first;
            }
            return NONE;
        }

        private boolean takeCue(int form) {
            if (form == BLOCK) return takeBlockTimes() && takeBlockText();
            if (form == FRAMES) return takeFrameTimes() && takeFrameText();
            return takePackedTimes() && takePackedText();
        }

        private boolean takeBlockTimes() {
            if (!takeBlockTime()) return false;
            start = time;
            if (!takeSign(BLANK) || !takeSign('>') || !takeSign(BLANK)) return false;
            if (!takeBlockTime()) return false;
            end = time;
            return takeSign(BREAK);
        }

        private boolean takeBlockTime() {
            time = 0;
            if (!takeSixty() || !takeSign(':') || !takeSixty() || !takeSign(':')) return false;
            if (!takeSixty() || !takeSign(',')) return false;
            if (!takeDigit('9') || !takeDigit('9') || !takeDigit('9')) return false;
            time *= THOUSANDTH;
            return true;
        }

        /** Two digits below 60, as hours, minutes or seconds behind the time so far. */
        private boolean takeSixty() {
            long before = time;
            time = 0;
            if (!takeDigit('5') || !takeDigit('9')) return false;
            time += before * 60;
            return true;
        }

        private boolean takeBlockText() {
            for (int k = 0; k < 2 * MOST_TEXT; k++) {
                if (buffer.look(place) != BREAK) {
                    if (!takeLetter()) return false;
                } else {
                    if (size == 0) return false;
                    place++;
                    if (broken) return true;
                    broken = true;
                }
            }
            return false;
        }

        private boolean takeFrameTimes() {
            if (!takeFrames()) return false;
            start = time;
            if (!takeFrames()) return false;
            end = time;
            return true;
        }

        private boolean takeFrames() {
            time = 0;
            if (!takeSign('{') || !takeDigit('9')) return false;
            for (int k = 1; k < 6; k++) {
                if (!takeDigit('9')) break;
            }
            time *= frameRate.ticks;
            return takeSign('}');
        }

        private boolean takeFrameText() {
            for (int k = 0; k < 2 * MOST_TEXT; k++) {
                int b = buffer.look(place);
                if (b == BREAK) {
                    if (size == 0 || broken) return false;
                    place++;
                    return true;
                }
                if (b == BAR ? !takeInnerBreak() : !takeLetter()) return false;
            }
            return false;
        }

        private boolean takePackedTimes() {
            if (!takeSixBytes()) return false;
            start = time;
            if (!takeSixBytes()) return false;
            end = time;
            return true;
        }

        private boolean takeSixBytes() {
            time = 0;
            for (int k = 0; k < 6; k++) {
                int b = buffer.look(place);
                if (b == NONE) return false;
                time = time * 256 + b;
                place++;
            }
            return true;
        }

        private boolean takePackedText() {
            int length = buffer.look(place);
            if (length < 1 || length > MOST_TEXT) return false;
            place++;
            for (int k = 0; k < length; k++) {
                if (buffer.look(place) != BREAK) {
                    if (!takeLetter()) return false;
                } else if (k == length - 1 || !takeInnerBreak()) {
                    return false;
                }
            }
            return true;
        }

        /** A line's end with a line before it and, by its form, one more behind it. */
        private boolean takeInnerBreak() {
            if (size == 0 || broken || size + 2 > MOST_TEXT) return false;
            broken = true;
            place++;
            return true;
        }

        /** A byte of a line, and with it the line's end before, which is none of the text until then. */
        private boolean takeLetter() {
            int b = buffer.look(place);
            int more = broken ? 2 : 1;
            if (!isLetter(b) || size + more > MOST_TEXT) return false;
            if (broken) letters[size++] = BREAK;
            letters[size++] = b;
            broken = false;
            place++;
            return true;
        }

        private static boolean isLetter(int b) {
            return b >= 32 && b != BAR && b != 127;
        }

        private boolean takeSign(int sign) {
            if (buffer.look(place) != sign) return false;
            place++;
            return true;
        }

        private boolean takeDigit(int highest) {
            int b = buffer.look(place);
            if (b < '0' || b > highest) return false;
            time = time * 10 + (b - '0');
            place++;
            return true;
        }
    }

    /** Writes the cues into the buffer. */
    private static final class FormWriter {
        private static final int[] TENS = {1, 10, 100, 1000, 10000, 100000};

        private final Buffer buffer;
        private final FrameRate frameRate;
        private final CueRow row;

        FormWriter(Buffer buffer, FrameRate frameRate, CueRow row) {
            this.buffer = buffer;
            this.frameRate = frameRate;
            this.row = row;
        }

        int length(int form) {
            int length = 0;
            for (int i = 0; i < row.count; i++) length += lengthOfTimes(form, i) + row.sizes[i];
            return length;
        }

        /** The bytes of a cue beside those of its text. */
        private int lengthOfTimes(int form, int i) {
            if (form == BLOCK) return 30;
            if (form == PACKED) return 13;
            return 5 + digits(frameRate.nearestFrame(row.starts[i])) + digits(frameRate.nearestFrame(row.ends[i]));
        }

        private static int digits(int number) {
            int digits = 1;
            while (digits < TENS.length && number >= TENS[digits]) digits++;
            return digits;
        }

        void fill(int form) {
            buffer.size = 0;
            for (int i = 0; i < row.count; i++) {
                if (form == BLOCK) addBlock(i);
                else if (form == FRAMES) addFrames(i);
                else addPacked(i);
            }
        }

        private void addBlock(int i) {
            addBlockTime(row.starts[i]);
            buffer.add(BLANK);
            buffer.add('>');
            buffer.add(BLANK);
            addBlockTime(row.ends[i]);
            buffer.add(BREAK);
            addText(i, BREAK);
            buffer.add(BREAK);
            buffer.add(BREAK);
        }

        private void addBlockTime(long time) {
            int thousandths = (int) nearest(time, THOUSANDTH);
            addNumber(thousandths / 3600000, 2);
            buffer.add(':');
            addNumber(thousandths / 60000 % 60, 2);
            buffer.add(':');
            addNumber(thousandths / 1000 % 60, 2);
            buffer.add(',');
            addNumber(thousandths % 1000, 3);
        }

        private void addFrames(int i) {
            addFrame(row.starts[i]);
            addFrame(row.ends[i]);
            addText(i, BAR);
            buffer.add(BREAK);
        }

        private void addFrame(long time) {
            int frame = frameRate.nearestFrame(time);
            buffer.add('{');
            addNumber(frame, digits(frame));
            buffer.add('}');
        }

        private void addPacked(int i) {
            addSixBytes(row.starts[i]);
            addSixBytes(row.ends[i]);
            buffer.add(row.sizes[i]);
            addText(i, BREAK);
        }

        private void addSixBytes(long time) {
            for (int k = 5; k >= 0; k--) buffer.add((int) (time >>> (8 * k)) & 255);
        }

        private void addNumber(int number, int digits) {
            for (int k = digits - 1; k >= 0; k--) buffer.add('0' + number / TENS[k] % 10);
        }

        private void addText(int i, int lineEnd) {
            for (int j = 0; j < row.sizes[i]; j++) {
                int b = row.byteAt(i, j);
                buffer.add(b == BREAK ? lineEnd : b);
            }
        }
    }

    /** Looks for the best place to break a text in two. */
    private static final class LineBreaker {
        private final CueRow row;
        private int best;
        private int bestDifference;

        LineBreaker(CueRow row) {
            this.row = row;
        }

        /** The place of the blank, or of the hyphen, where the text breaks best; NONE when it breaks nowhere. */
        int bestPlace(int i) {
            best = NONE;
            int size = row.sizes[i];
            int all = row.cellsAsOneLine(i);
            int before = 0;
            // A break at the last byte would leave no second line.
            for (int j = 0; j < size - 1; j++) {
                int b = row.byteAt(i, j);
                boolean blank = b == BLANK || b == BREAK;
                if (blank && j > 0) offer(j, before, all - before - 1);
                before += blank ? 1 : cellsOf(b);
                if (b == HYPHEN && size < MOST_TEXT) offer(j, before, all - before);
            }
            return best;
        }

        /** Places are offered in order, so the second line never grows: of several as good, the first is due. */
        private void offer(int place, int first, int second) {
            if (first > LINE_CELLS || second > LINE_CELLS) return;
            int difference = Math.abs(first - second);
            if (best != NONE && difference >= bestDifference) return;
            best = place;
            bestDifference = difference;
        }
    }

    /** The rules, and the shots that ends have to keep to. */
    private static final class RuleSet {
        private static final int MOST_SHOTS = 20, LAST_SHOT = 216000, SHOT_REACH = 7, BEFORE_SHOT = 2;

        private int gap = 2;
        private int least = 20;
        private int most = 168;
        private int speed = 17;
        private final int[] shots = new int[MOST_SHOTS];
        private int shotCount;

        boolean change(int newGap, int newLeast, int newMost, int newSpeed) {
            if (newGap < 0 || newGap > 20 || newLeast < 1 || newLeast > 100) return false;
            if (newMost < newLeast || newMost > 400 || newSpeed < 1 || newSpeed > 60) return false;
            gap = newGap;
            least = newLeast;
            most = newMost;
            speed = newSpeed;
            return true;
        }

        int addShot(int frame) {
            if (frame < 0 || frame > LAST_SHOT) return BAD;
            for (int k = 0; k < shotCount; k++) {
                if (shots[k] == frame) return shotCount;
            }
            if (shotCount == MOST_SHOTS) return FULL;
            shots[shotCount++] = frame;
            return shotCount;
        }

        boolean shotsAllow(int end) {
            boolean near = false;
            for (int k = 0; k < shotCount; k++) {
                if (end == shots[k] - BEFORE_SHOT) return true;
                if (Math.abs(end - shots[k]) <= SHOT_REACH) near = true;
            }
            return !near;
        }

        /** The least frames that a text of so many cells may stand: least, or what the speed asks. */
        int shortest(int cells, FrameRate frameRate) {
            int top = cells * frameRate.num;
            int bottom = speed * frameRate.den;
            return Math.max(least, (top + bottom - 1) / bottom);
        }
    }

    /**
     * Finds the legal setting with the least sum. From the last cue back it weighs, for every start a cue may get,
     * the least sum of this cue and all behind it; going forward again, the first start and end that reach the
     * least sum are the least times of several.
     */
    private static final class Repairer {
        private static final int NEVER = 1000000;
        private static final int START_REACH = 12, STARTS = 25, END_REACH = 48, ENDS = 97;

        private final CueRow row;
        private final FrameRate frameRate;
        private final RuleSet ruleSet;
        private final int[] firstStarts = new int[MOST_CUES];
        private final int[] firstEnds = new int[MOST_CUES];
        private final int[] shortest = new int[MOST_CUES];
        private final int[] endSums = new int[ENDS];
        private final int[] bestEnds = new int[MOST_CUES * STARTS];
        private final int[] startSums = new int[MOST_CUES * STARTS];
        /** The least of the start sums from one on. */
        private final int[] leastSums = new int[MOST_CUES * STARTS];

        Repairer(CueRow row, FrameRate frameRate, RuleSet ruleSet) {
            this.row = row;
            this.frameRate = frameRate;
            this.ruleSet = ruleSet;
        }

        int leastSum() {
            for (int i = row.count - 1; i >= 0; i--) {
                firstStarts[i] = frameRate.nearestFrame(row.starts[i]) - START_REACH;
                firstEnds[i] = frameRate.nearestFrame(row.ends[i]) - END_REACH;
                shortest[i] = ruleSet.shortest(row.cells(i, 0, row.sizes[i]), frameRate);
                weighEnds(i);
                weighStarts(i);
            }
            return leastFrom(0, 0);
        }

        private void weighEnds(int i) {
            for (int k = 0; k < ENDS; k++) {
                int end = firstEnds[i] + k;
                endSums[k] = endAllowed(end) ? Math.abs(k - END_REACH) + leastFrom(i + 1, end + ruleSet.gap) : NEVER;
            }
        }

        private boolean endAllowed(int end) {
            return frameRate.holds(end) && ruleSet.shotsAllow(end);
        }

        private void weighStarts(int i) {
            int least = NEVER;
            for (int k = STARTS - 1; k >= 0; k--) {
                int best = bestEnd(i, firstStarts[i] + k);
                int here = i * STARTS + k;
                bestEnds[here] = firstEnds[i] + best;
                startSums[here] = best == NONE ? NEVER : Math.abs(k - START_REACH) + endSums[best];
                least = Math.min(least, startSums[here]);
                leastSums[here] = least;
            }
        }

        /** The place of the first end with the least sum for a start; NONE when no end is legal. */
        private int bestEnd(int i, int start) {
            int from = Math.max(0, start + shortest[i] - firstEnds[i]);
            int to = Math.min(ENDS - 1, start + ruleSet.most - firstEnds[i]);
            int best = NONE;
            int bestSum = NEVER;
            for (int k = from; k <= to; k++) {
                if (endSums[k] < bestSum) {
                    bestSum = endSums[k];
                    best = k;
                }
            }
            return best;
        }

        private int placeOfStart(int i, int floor) {
            return Math.max(0, floor - firstStarts[i]);
        }

        /** The least sum of a cue and all behind it when it may not start before a floor. */
        private int leastFrom(int i, int floor) {
            if (i >= row.count) return 0;
            int k = placeOfStart(i, floor);
            return k < STARTS ? leastSums[i * STARTS + k] : NEVER;
        }

        /** The first cue for which no setting is left, with every end before it as early as it can be. */
        int firstStuck() {
            int floor = 0;
            for (int i = 0; i < row.count; i++) {
                int end = earliestEnd(i, floor);
                if (end == NONE) return i;
                floor = end + ruleSet.gap;
            }
            return row.count;
        }

        private int earliestEnd(int i, int floor) {
            int lowest = Math.max(firstStarts[i], floor);
            int highest = firstStarts[i] + STARTS - 1;
            for (int k = 0; k < ENDS; k++) {
                int end = firstEnds[i] + k;
                int from = Math.max(lowest, end - ruleSet.most);
                int to = Math.min(highest, end - shortest[i]);
                if (from <= to && endAllowed(end)) return end;
            }
            return NONE;
        }

        void take() {
            int floor = 0;
            for (int i = 0; i < row.count; i++) {
                int k = firstBestStart(i, floor);
                int end = bestEnds[i * STARTS + k];
                row.starts[i] = (firstStarts[i] + k) * frameRate.ticks;
                row.ends[i] = end * frameRate.ticks;
                floor = end + ruleSet.gap;
            }
        }

        private int firstBestStart(int i, int floor) {
            int least = leastFrom(i, floor);
            for (int k = placeOfStart(i, floor); k < STARTS; k++) {
                if (startSums[i * STARTS + k] == least) return k;
            }
            return 0;
        }
    }
}
