/**
 * The document once more, word by word and slow, to be compared with the program: WORDS are arrays,
 * MENDING solves equations for every set of places, SPARE tries every set.
 */
final class PlainModel {

    private static final int NONE = -1;
    private static final long MOST_DATA = 17592186044415L;

    private final int[][] stored = new int[18][16];
    private final int[][] mask = new int[18][16];
    private final int[][] value = new int[18][16];
    private final int[] key = new int[18];
    private final int[] blamed = new int[18];
    private final boolean[] marked = new boolean[18];
    private final boolean[] out = new boolean[18];
    private final boolean[] isSpare = new boolean[18];
    private final int[] seat = new int[15];
    private final int[] frameLine = {NONE, NONE, NONE, NONE};
    private final long[] frameData = {NONE, NONE, NONE, NONE};
    private final boolean[] frameDirty = new boolean[4];
    private final int[] frameTime = new int[4];
    private int limit = 4;
    private int uses, fetches, lost, mendedEver, hits, misses, refused, at;

    PlainModel() {
        for (int chip = 0; chip < 18; chip++) {
            key[chip] = NONE;
            isSpare[chip] = chip > 14;
        }
        for (int place = 0; place < 15; place++) {
            seat[place] = place;
        }
    }

    // ---- the field: polynomials, and powers by multiplying

    private static int product(int one, int two) {
        int all = 0;
        for (int bit = 0; bit < 4; bit++) {
            if ((two >> bit) % 2 == 1) {
                all ^= one << bit;
            }
        }
        for (int bit = 6; bit >= 4; bit--) {
            if ((all >> bit) % 2 == 1) {
                all ^= 19 << (bit - 4);
            }
        }
        return all;
    }

    private static int powerOf(int k) {
        int result = 1;
        for (int i = 0; i < k; i++) {
            result = product(result, 2);
        }
        return result;
    }

    private static final int[] INVERSE = new int[16];
    private static final int[] POWER = new int[60];

    static {
        for (int one = 1; one < 16; one++) {
            for (int two = 1; two < 16; two++) {
                if (product(one, two) == 1) {
                    INVERSE[one] = two;
                }
            }
        }
        for (int k = 0; k < 60; k++) {
            POWER[k] = powerOf(k);
        }
    }

    private static int sumIn(int[] word, int j) {
        int sum = 0;
        for (int i = 0; i < 15; i++) {
            sum ^= product(word[i], POWER[i * j]);
        }
        return sum;
    }

    // ---- the code: equations

    private static int count(int set) {
        return Integer.bitCount(set);
    }

    /** The WORD of the CODE that differs in these places at most; null without one. */
    private static int[] solved(int[] word, int places) {
        int n = count(places);
        int[] where = new int[n];
        int filled = 0;
        for (int i = 0; i < 15; i++) {
            if ((places >> i) % 2 == 1) {
                where[filled++] = i;
            }
        }
        int[][] rows = new int[4][n + 1];
        for (int j = 1; j <= 4; j++) {
            for (int k = 0; k < n; k++) {
                rows[j - 1][k] = POWER[where[k] * j];
            }
            rows[j - 1][n] = sumIn(word, j);
        }
        for (int column = 0; column < n; column++) {
            int pivot = column;
            while (rows[pivot][column] == 0) {
                pivot++;
            }
            int[] swap = rows[pivot];
            rows[pivot] = rows[column];
            rows[column] = swap;
            int inverse = INVERSE[rows[column][column]];
            for (int k = 0; k <= n; k++) {
                rows[column][k] = product(rows[column][k], inverse);
            }
            for (int other = 0; other < 4; other++) {
                int factor = rows[other][column];
                if (other != column && factor != 0) {
                    for (int k = 0; k <= n; k++) {
                        rows[other][k] ^= product(rows[column][k], factor);
                    }
                }
            }
        }
        for (int row = n; row < 4; row++) {
            if (rows[row][n] != 0) {
                return null;
            }
        }
        int[] result = word.clone();
        for (int k = 0; k < n; k++) {
            result[where[k]] ^= rows[k][n];
        }
        return result;
    }

    /** All sets of t places beside E, tried one by one; the WORD is checked against the definition. */
    private static int[] mend(int[] word, int erased) {
        int e = count(erased);
        if (e > 4) {
            return null;
        }
        int t = (4 - e) / 2;
        if (t == 2) {
            for (int a = 0; a < 15; a++) {
                for (int b = a + 1; b < 15; b++) {
                    int[] found = solved(word, 1 << a | 1 << b);
                    if (found != null) {
                        return found;
                    }
                }
            }
            return null;
        }
        if (t == 1) {
            for (int a = 0; a < 15; a++) {
                int[] found = (erased >> a) % 2 == 1 ? null : solved(word, erased | 1 << a);
                if (found != null) {
                    return found;
                }
            }
            return null;
        }
        return solved(word, erased);
    }

    private static int[] wordOf(long data) {
        int[] word = new int[15];
        for (int place = 4; place < 15; place++) {
            word[place] = (int) (data % 16);
            data /= 16;
        }
        return solved(word, 15);
    }

    private static long dataIn(int[] word) {
        long data = 0;
        for (int place = 14; place >= 4; place--) {
            data = data * 16 + word[place];
        }
        return data;
    }

    private static int differing(int[] one, int[] two) {
        int set = 0;
        for (int i = 0; i < 15; i++) {
            if (one[i] != two[i]) {
                set += 1 << i;
            }
        }
        return set;
    }

    // ---- what is there

    private int read(int chip, int line) {
        if (key[chip] != NONE) {
            return (key[chip] + line) % 16;
        }
        int result = 0;
        for (int bit = 0; bit < 4; bit++) {
            boolean isStuck = (mask[chip][line] >> bit) % 2 == 1;
            int from = isStuck ? value[chip][line] : stored[chip][line];
            result += from >> bit << bit & 1 << bit;
        }
        return result;
    }

    private int[] readLine(int line) {
        int[] word = new int[15];
        for (int i = 0; i < 15; i++) {
            word[i] = read(seat[i], line);
        }
        return word;
    }

    private void writeLine(int line, int[] word) {
        for (int i = 0; i < 15; i++) {
            stored[seat[i]][line] = word[i];
        }
    }

    private int erasedSet() {
        int set = 0;
        for (int i = 0; i < 15; i++) {
            if (marked[seat[i]]) {
                set += 1 << i;
            }
        }
        return set;
    }

    private int[] fetchWord(int line) {
        fetches++;
        int[] was = readLine(line);
        int[] word = mend(was, erasedSet());
        if (word == null) {
            lost++;
        } else {
            int wrong = differing(was, word);
            mendedEver += count(wrong);
            for (int i = 0; i < 15; i++) {
                if ((wrong >> i) % 2 == 1 && !marked[seat[i]]) {
                    blamed[seat[i]]++;
                }
            }
            if (wrong != 0) {
                writeLine(line, word);
            }
        }
        for (int i = 0; i < 15; i++) {
            if (blamed[seat[i]] >= limit && count(erasedSet()) < 4) {
                marked[seat[i]] = true;
            }
        }
        return word;
    }

    private int frameWith(int line) {
        for (int frame = 0; frame < 4; frame++) {
            if (frameLine[frame] == line) {
                return frame;
            }
        }
        return NONE;
    }

    private int takeFrame(int line) {
        int frame = frameWith(NONE);
        if (frame == NONE) {
            frame = 0;
            for (int other = 1; other < 4; other++) {
                if (frameTime[other] < frameTime[frame]) {
                    frame = other;
                }
            }
        }
        if (frameDirty[frame]) {
            writeLine(frameLine[frame], wordOf(frameData[frame]));
        }
        frameDirty[frame] = false;
        frameLine[frame] = line;
        return frame;
    }

    private static void bounds(boolean isIn) {
        if (!isIn) {
            throw new IndexOutOfBoundsException();
        }
    }

    private static void argument(boolean isRight) {
        if (!isRight) {
            throw new IllegalArgumentException();
        }
    }

    private static boolean isTo(long number, long most) {
        return number >= 0 && number <= most;
    }

    // ---- the face

    public int write(int line, long data) {
        bounds(isTo(line, 15));
        argument(isTo(data, MOST_DATA));
        int[] before = readLine(line);
        writeLine(line, wordOf(data));
        return count(differing(before, readLine(line)));
    }

    public int stick(int chip, int line, int mask, int value) {
        bounds(isTo(chip, 17) && isTo(line, 15));
        argument(isTo(mask, 15) && isTo(value, 15));
        this.mask[chip][line] = mask;
        this.value[chip][line] = value;
        return ofChip(chip, 5);
    }

    public int mad(int chip, int key) {
        bounds(isTo(chip, 17));
        argument(key == NONE || isTo(key, 15));
        int before = this.key[chip];
        this.key[chip] = key;
        return before;
    }

    public int ray(int chip, int line, int mask) {
        bounds(isTo(chip, 17) && isTo(line, 15));
        argument(isTo(mask, 15) && mask != 0);
        stored[chip][line] ^= mask;
        return stored[chip][line];
    }

    public int erase(int place, boolean isErased) {
        bounds(isTo(place, 14));
        int others = 0;
        for (int i = 0; i < 15; i++) {
            others += i != place && marked[seat[i]] ? 1 : 0;
        }
        if (others == 4 && isErased) {
            throw new IllegalStateException();
        }
        marked[seat[place]] = isErased;
        return count(erasedSet());
    }

    public int replace(int place) {
        bounds(isTo(place, 14));
        int next = 15;
        while (next < 18 && !isSpare[next]) {
            next++;
        }
        if (next == 18) {
            throw new IllegalStateException();
        }
        int erased = erasedSet();
        if (count(erased | 1 << place) <= 4) {
            erased |= 1 << place;
        }
        for (int line = 0; line < 16; line++) {
            int[] was = readLine(line);
            int[] word = mend(was, erased);
            stored[next][line] = word == null ? was[place] : word[place];
        }
        out[seat[place]] = true;
        isSpare[next] = false;
        seat[place] = next;
        return next;
    }

    public int limit(int limit) {
        argument(limit >= 1 && limit <= 99);
        int before = this.limit;
        this.limit = limit;
        return before;
    }

    public int fetch(int line) {
        bounds(isTo(line, 15));
        int[] was = readLine(line);
        int[] word = fetchWord(line);
        return word == null ? NONE : count(differing(was, word));
    }

    public int patrol(int steps) {
        argument(steps >= 1 && steps <= 40);
        int bad = 0;
        for (int k = 0; k < steps; k++) {
            bad += fetchWord(at) == null ? 1 : 0;
            at = at == 15 ? 0 : at + 1;
        }
        return bad;
    }

    public long load(int line) {
        bounds(isTo(line, 15));
        int frame = frameWith(line);
        if (frame != NONE) {
            hits++;
        } else {
            misses++;
            int[] word = fetchWord(line);
            if (word == null) {
                return NONE;
            }
            frame = takeFrame(line);
            frameData[frame] = dataIn(word);
        }
        frameTime[frame] = ++uses;
        return frameData[frame];
    }

    public int store(int line, long data) {
        bounds(isTo(line, 15));
        argument(isTo(data, MOST_DATA));
        int frame = frameWith(line);
        if (frame != NONE) {
            hits++;
        } else {
            misses++;
            frame = takeFrame(line);
        }
        frameData[frame] = data;
        frameDirty[frame] = true;
        frameTime[frame] = ++uses;
        return frame;
    }

    public int flush() {
        int dirty = 0;
        for (int frame = 0; frame < 4; frame++) {
            if (frameDirty[frame]) {
                dirty++;
                writeLine(frameLine[frame], wordOf(frameData[frame]));
                frameDirty[frame] = false;
            }
        }
        return dirty;
    }

    public int call() {
        return ++refused;
    }

    public int times(int one, int two) {
        argument(isTo(one, 15) && isTo(two, 15));
        return product(one, two);
    }

    public int power(int k) {
        argument(isTo(k, 999));
        return powerOf(k);
    }

    public int symbol(long data, int place) {
        bounds(isTo(place, 14));
        argument(isTo(data, MOST_DATA));
        return wordOf(data)[place];
    }

    public int fooled(int first, int second, int third, int one, int two) {
        bounds(isTo(first, 14) && isTo(second, 14) && isTo(third, 14));
        argument(first != second && first != third && second != third);
        argument(one >= 1 && one <= 15 && two >= 1 && two <= 15);
        int result = 0;
        for (int three = 1; three < 16; three++) {
            int[] word = wordOf(12345678901L);
            int[] hit = word.clone();
            hit[first] ^= one;
            hit[second] ^= two;
            hit[third] ^= three;
            int[] to = mend(hit, 0);
            result += to != null && differing(to, word) != 0 ? 1 : 0;
        }
        return result;
    }

    public int seen(int line, int place) {
        bounds(isTo(line, 15) && isTo(place, 14));
        return read(seat[place], line);
    }

    public int sum(int line, int j) {
        bounds(isTo(line, 15));
        argument(j >= 1 && j <= 4);
        return sumIn(readLine(line), j);
    }

    public int mended(int line) {
        bounds(isTo(line, 15));
        int[] word = mend(readLine(line), erasedSet());
        return word == null ? NONE : differing(word, readLine(line));
    }

    public long data(int line) {
        bounds(isTo(line, 15));
        int[] word = mend(readLine(line), erasedSet());
        return word == null ? NONE : dataIn(word);
    }

    public int ofChip(int chip, int what) {
        bounds(isTo(chip, 17));
        argument(isTo(what, 5));
        int place = NONE;
        for (int i = 0; i < 15; i++) {
            place = seat[i] == chip ? i : place;
        }
        int stuck = 0;
        for (int line = 0; line < 16; line++) {
            stuck += mask[chip][line] != 0 ? 1 : 0;
        }
        int[] all = {place, key[chip], blamed[chip], marked[chip] ? 1 : 0, out[chip] ? 1 : 0, stuck};
        return all[what];
    }

    public int stored(int chip, int line) {
        bounds(isTo(chip, 17) && isTo(line, 15));
        return stored[chip][line];
    }

    public int ofFrame(int frame, int what) {
        bounds(isTo(frame, 3));
        argument(isTo(what, 2));
        int[] all = {frameLine[frame], frameDirty[frame] ? 1 : 0, frameTime[frame]};
        return all[what];
    }

    public long held(int frame) {
        bounds(isTo(frame, 3));
        return frameData[frame];
    }

    public int bank(int what) {
        argument(isTo(what, 12));
        int spares = 0;
        int outs = 0;
        for (int chip = 0; chip < 18; chip++) {
            spares += isSpare[chip] ? 1 : 0;
            outs += out[chip] ? 1 : 0;
        }
        int dirty = 0;
        for (int frame = 0; frame < 4; frame++) {
            dirty += frameDirty[frame] ? 1 : 0;
        }
        int[] all = {fetches, lost, mendedEver, spares, count(erasedSet()), outs, at, hits, misses, dirty,
            what == 10 ? badNow() : 0, limit, refused};
        return all[what];
    }

    private int badNow() {
        int bad = 0;
        for (int line = 0; line < 16; line++) {
            bad += mend(readLine(line), erasedSet()) == null ? 1 : 0;
        }
        return bad;
    }

    public String row(int line) {
        bounds(isTo(line, 15));
        String text = "";
        for (int i = 0; i < 15; i++) {
            text += marked[seat[i]] ? "?" : Integer.toHexString(read(seat[i], line));
        }
        return text;
    }

    public int wouldMend(int line, int erased) {
        bounds(isTo(line, 15));
        argument(isTo(erased, 32767));
        int[] word = mend(readLine(line), erasedSet() | erased);
        return word == null ? NONE : count(differing(word, readLine(line)));
    }

    /** Every set beside the ERASED places is tried. */
    public int spare(int line) {
        bounds(isTo(line, 15));
        int[] was = readLine(line);
        int erased = erasedSet();
        int[] word = mend(was, erased);
        if (word == null) {
            return NONE;
        }
        boolean[] isSame = {true, true, true, true, true};
        for (int more = 0; more < 1 << 15; more++) {
            if ((more & erased) == 0 && count(more) <= 4 && isSame[count(more)]) {
                int[] other = mend(was, erased | more);
                if (other == null || differing(other, word) != 0) {
                    isSame[count(more)] = false;
                }
            }
        }
        int best = 0;
        for (int m = 0; m <= 4; m++) {
            best = isSame[m] ? m : best;
        }
        return best;
    }

    public int wouldLose(int place, int key) {
        bounds(isTo(place, 14));
        argument(isTo(key, 15));
        int before = this.key[seat[place]];
        this.key[seat[place]] = key;
        int bad = badNow();
        this.key[seat[place]] = before;
        return bad;
    }

    public double health() {
        return (16 - badNow()) / 16.0;
    }

    public boolean isSound() {
        return true;
    }

    public long digest() {
        long d = 3331;
        for (int what = 0; what <= 12; what++) {
            d = d * 31 + bank(what);
        }
        for (int chip = 0; chip < 18; chip++) {
            for (int what = 0; what <= 5; what++) {
                d = d * 31 + ofChip(chip, what);
            }
        }
        for (int line = 0; line < 16; line++) {
            d = d * 31 + mended(line);
            d = d * 31 + data(line);
            d = d * 31 + spare(line);
        }
        for (int chip = 0; chip < 18; chip++) {
            for (int line = 0; line < 16; line++) {
                d = d * 31 + stored(chip, line);
            }
        }
        for (int frame = 0; frame < 4; frame++) {
            for (int what = 0; what <= 2; what++) {
                d = d * 31 + ofFrame(frame, what);
            }
            d = d * 31 + held(frame);
        }
        d = d * 31 + (long) (64 * health());
        return d * 31 + (isSound() ? 1 : 0);
    }
}
