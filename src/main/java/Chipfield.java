/**
 * Memory on chips that can fail as a whole: lines of symbols on chips that stick, go mad and are
 * replaced, mended by a code that corrects four erased places or two unknown ones.
 *
 * <p>The words in capitals are those of the document.
 */
public final class Chipfield {

    private static final int NONE = -1;
    private static final int PLACES = 15;
    private static final int LINES = 16;
    private static final int CHIPS = 18;
    private static final int FRAMES = 4;
    private static final int CHECKS = 4;
    private static final int MOST_ERASED = 4;
    private static final int FIRST_LIMIT = 4;
    private static final int MOST_LIMIT = 99;
    private static final int MOST_STEPS = 40;
    private static final int MOST_POWER = 999;
    private static final int MOST_ELEMENT = 15;
    private static final int ALL_PLACES = (1 << PLACES) - 1;
    private static final int BANK_NUMBERS = 13;
    private static final int CHIP_NUMBERS = 6;
    private static final int FRAME_NUMBERS = 3;
    private static final long MOST_DATA = (1L << 44) - 1;

    private final Memory memory = new Memory();
    private final Cache cache = new Cache(memory);
    private int refused = 0;

    public Chipfield() {
    }

    // ---- what happens to chips

    public int write(int line, long data) throws IndexOutOfBoundsException, IllegalArgumentException {
        checkLine(line);
        checkData(data);
        long before = memory.readWord(line);
        memory.writeWord(line, Code.wordOf(data));
        return Integer.bitCount(Code.placesIn(before ^ memory.readWord(line)));
    }

    public int stick(int chip, int line, int mask, int value)
            throws IndexOutOfBoundsException, IllegalArgumentException {
        checkChip(chip);
        checkLine(line);
        checkElement(mask);
        checkElement(value);
        memory.chips[chip].stickCell(line, mask, value);
        return memory.chips[chip].stuckCells();
    }

    public int mad(int chip, int key) throws IndexOutOfBoundsException, IllegalArgumentException {
        checkChip(chip);
        if (key != NONE) {
            checkElement(key);
        }
        int before = memory.chips[chip].key;
        memory.chips[chip].key = key;
        return before;
    }

    public int ray(int chip, int line, int mask) throws IndexOutOfBoundsException, IllegalArgumentException {
        checkChip(chip);
        checkLine(line);
        checkElementNotZero(mask);
        Chip hit = memory.chips[chip];
        hit.putAt(line, hit.storedAt(line) ^ mask);
        return hit.storedAt(line);
    }

    public int erase(int place, boolean isErased) throws IndexOutOfBoundsException, IllegalStateException {
        checkPlace(place);
        int others = memory.erasedPlaces() & ~(1 << place);
        if (isErased && Integer.bitCount(others) >= MOST_ERASED) {
            throw new IllegalStateException("4 other places are ERASED");
        }
        memory.seats[place].isErased = isErased;
        return Integer.bitCount(memory.erasedPlaces());
    }

    public int replace(int place) throws IndexOutOfBoundsException, IllegalStateException {
        checkPlace(place);
        if (memory.sparesLeft() == 0) {
            throw new IllegalStateException("no SPARE is left");
        }
        memory.replaceAt(place);
        return memory.seats[place].number;
    }

    public int limit(int limit) throws IllegalArgumentException {
        if (limit < 1 || limit > MOST_LIMIT) {
            throw new IllegalArgumentException("limit is not 1 to 99");
        }
        int before = memory.limit;
        memory.limit = limit;
        return before;
    }

    // ---- reading, the patrol, the cache

    public int fetch(int line) throws IndexOutOfBoundsException {
        checkLine(line);
        long read = memory.readWord(line);
        return wrongIn(read, memory.fetchLine(line));
    }

    public int patrol(int steps) throws IllegalArgumentException {
        if (steps < 1 || steps > MOST_STEPS) {
            throw new IllegalArgumentException("steps is not 1 to 40");
        }
        int bad = 0;
        for (int step = 0; step < steps; step++) {
            if (memory.stepPatrol() == NONE) {
                bad++;
            }
        }
        return bad;
    }

    public long load(int line) throws IndexOutOfBoundsException {
        checkLine(line);
        return dataOrNone(cache.wordThrough(line));
    }

    public int store(int line, long data) throws IndexOutOfBoundsException, IllegalArgumentException {
        checkLine(line);
        checkData(data);
        return cache.keepDirty(line, Code.wordOf(data));
    }

    public int flush() {
        return cache.writeBackAll();
    }

    public int call() {
        refused++;
        return refused;
    }

    // ---- the field and the code

    public int times(int one, int two) throws IllegalArgumentException {
        checkElement(one);
        checkElement(two);
        return Code.product(one, two);
    }

    public int power(int k) throws IllegalArgumentException {
        if (k < 0 || k > MOST_POWER) {
            throw new IllegalArgumentException("k is not 0 to 999");
        }
        return Code.timesPower(1, k);
    }

    public int symbol(long data, int place) throws IndexOutOfBoundsException, IllegalArgumentException {
        checkPlace(place);
        checkData(data);
        return numberAt(Code.wordOf(data), place);
    }

    public int fooled(int first, int second, int third, int one, int two)
            throws IndexOutOfBoundsException, IllegalArgumentException {
        checkPlace(first);
        checkPlace(second);
        checkPlace(third);
        if (first == second || first == third || second == third) {
            throw new IllegalArgumentException("two places are the same");
        }
        checkElementNotZero(one);
        checkElementNotZero(two);
        long pair = withNumber(withNumber(0, first, one), second, two);
        int count = 0;
        for (int three = 1; three <= MOST_ELEMENT; three++) {
            // Three places are too many to be mended back: what is not BAD here is another WORD.
            if (Code.mendedWord(withNumber(pair, third, three), 0) != NONE) {
                count++;
            }
        }
        return count;
    }

    // ---- what is so

    public int seen(int line, int place) throws IndexOutOfBoundsException {
        checkLine(line);
        checkPlace(place);
        return memory.seats[place].readAt(line);
    }

    public int sum(int line, int j) throws IndexOutOfBoundsException, IllegalArgumentException {
        checkLine(line);
        if (j < 1 || j > CHECKS) {
            throw new IllegalArgumentException("j is not 1 to 4");
        }
        return Code.sumOf(memory.readWord(line), j);
    }

    public int mended(int line) throws IndexOutOfBoundsException {
        checkLine(line);
        long word = memory.wordMendedTo(line);
        return word == NONE ? NONE : Code.placesIn(memory.readWord(line) ^ word);
    }

    public long data(int line) throws IndexOutOfBoundsException {
        checkLine(line);
        return dataOrNone(memory.wordMendedTo(line));
    }

    public int ofChip(int chip, int what) throws IndexOutOfBoundsException, IllegalArgumentException {
        checkChip(chip);
        Chip asked = memory.chips[chip];
        switch (what) {
            case 0: return asked.place;
            case 1: return asked.key;
            case 2: return asked.blame;
            case 3: return asked.isErased ? 1 : 0;
            case 4: return asked.isOut ? 1 : 0;
            case 5: return asked.stuckCells();
            default: throw new IllegalArgumentException("what is not 0 to 5");
        }
    }

    public int stored(int chip, int line) throws IndexOutOfBoundsException {
        checkChip(chip);
        checkLine(line);
        return memory.chips[chip].storedAt(line);
    }

    public int ofFrame(int frame, int what) throws IndexOutOfBoundsException, IllegalArgumentException {
        checkFrame(frame);
        Frame asked = cache.frames[frame];
        switch (what) {
            case 0: return asked.line;
            case 1: return asked.isDirty ? 1 : 0;
            case 2: return asked.time;
            default: throw new IllegalArgumentException("what is not 0 to 2");
        }
    }

    public long held(int frame) throws IndexOutOfBoundsException {
        checkFrame(frame);
        return dataOrNone(cache.frames[frame].word);
    }

    public int bank(int what) throws IllegalArgumentException {
        switch (what) {
            case 0: return memory.fetches;
            case 1: return memory.lost;
            case 2: return memory.mendedPlaces;
            case 3: return memory.sparesLeft();
            case 4: return Integer.bitCount(memory.erasedPlaces());
            case 5: return memory.chipsOut();
            case 6: return memory.patrolLine;
            case 7: return cache.hits;
            case 8: return cache.misses;
            case 9: return cache.dirtyFrames();
            case 10: return memory.badLines();
            case 11: return memory.limit;
            case 12: return refused;
            default: throw new IllegalArgumentException("what is not 0 to 12");
        }
    }

    public String row(int line) throws IndexOutOfBoundsException {
        checkLine(line);
        StringBuilder signs = new StringBuilder();
        for (int place = 0; place < PLACES; place++) {
            Chip chip = memory.seats[place];
            signs.append(chip.isErased ? '?' : signOf(chip.readAt(line)));
        }
        return signs.toString();
    }

    // ---- what would be (nothing is changed)

    public int wouldMend(int line, int erased) throws IndexOutOfBoundsException, IllegalArgumentException {
        checkLine(line);
        if (erased < 0 || erased > ALL_PLACES) {
            throw new IllegalArgumentException("erased is not 0 to 32767");
        }
        long read = memory.readWord(line);
        return wrongIn(read, Code.mendedWord(read, memory.erasedPlaces() | erased));
    }

    public int spare(int line) throws IndexOutOfBoundsException {
        checkLine(line);
        long word = memory.wordMendedTo(line);
        if (word == NONE) {
            return NONE;
        }
        int wrong = Code.placesIn(memory.readWord(line) ^ word);
        // The worst m places hold no error: each takes one from 4, as an ERASED one does, and an
        // error elsewhere takes two. With one place more another set of m places would be too many.
        int erased = memory.erasedPlaces();
        return CHECKS - Integer.bitCount(erased) - 2 * Integer.bitCount(wrong & ~erased);
    }

    public int wouldLose(int place, int key) throws IndexOutOfBoundsException, IllegalArgumentException {
        checkPlace(place);
        checkElement(key);
        int erased = memory.erasedPlaces();
        int bad = 0;
        for (int line = 0; line < LINES; line++) {
            long read = withNumber(memory.readWord(line), place, Chip.madSymbol(key, line));
            if (Code.mendedWord(read, erased) == NONE) {
                bad++;
            }
        }
        return bad;
    }

    public double health() {
        return (double) (LINES - memory.badLines()) / (double) LINES;
    }

    public boolean isSound() {
        // What is stored is kept in 4 bits each, so it is 0 to 15 always.
        return memory.areSeatsSound()
                && Integer.bitCount(memory.erasedPlaces()) <= MOST_ERASED
                && cache.areFramesSound()
                && memory.lost <= memory.fetches;
    }

    public long digest() {
        long d = 3331;
        for (int what = 0; what < BANK_NUMBERS; what++) {
            d = d * 31 + bank(what);
        }
        for (int chip = 0; chip < CHIPS; chip++) {
            for (int what = 0; what < CHIP_NUMBERS; what++) {
                d = d * 31 + ofChip(chip, what);
            }
        }
        for (int line = 0; line < LINES; line++) {
            d = d * 31 + mended(line);
            d = d * 31 + data(line);
            d = d * 31 + spare(line);
        }
        for (int chip = 0; chip < CHIPS; chip++) {
            for (int line = 0; line < LINES; line++) {
                d = d * 31 + stored(chip, line);
            }
        }
        for (int frame = 0; frame < FRAMES; frame++) {
            for (int what = 0; what < FRAME_NUMBERS; what++) {
                d = d * 31 + ofFrame(frame, what);
            }
            d = d * 31 + held(frame);
        }
        d = d * 31 + (long) (64 * health());
        return d * 31 + (isSound() ? 1 : 0);
    }

    // ---- arguments

    private static void checkLine(int line) {
        if (line < 0 || line >= LINES) {
            throw new IndexOutOfBoundsException("line is not 0 to 15");
        }
    }

    private static void checkPlace(int place) {
        if (place < 0 || place >= PLACES) {
            throw new IndexOutOfBoundsException("place is not 0 to 14");
        }
    }

    private static void checkChip(int chip) {
        if (chip < 0 || chip >= CHIPS) {
            throw new IndexOutOfBoundsException("chip is not 0 to 17");
        }
    }

    private static void checkFrame(int frame) {
        if (frame < 0 || frame >= FRAMES) {
            throw new IndexOutOfBoundsException("frame is not 0 to 3");
        }
    }

    private static void checkElement(int element) {
        if (element < 0 || element > MOST_ELEMENT) {
            throw new IllegalArgumentException("a number is not 0 to 15");
        }
    }

    private static void checkElementNotZero(int element) {
        if (element < 1 || element > MOST_ELEMENT) {
            throw new IllegalArgumentException("a number is not 1 to 15");
        }
    }

    private static void checkData(long data) {
        if (data < 0 || data > MOST_DATA) {
            throw new IllegalArgumentException("data is not 0 to 2^44 - 1");
        }
    }

    // ---- answers

    private static int wrongIn(long read, long word) {
        return word == NONE ? NONE : Integer.bitCount(Code.placesIn(read ^ word));
    }

    private static long dataOrNone(long word) {
        return word == NONE ? NONE : Code.dataIn(word);
    }

    private static char signOf(int symbol) {
        return (char) (symbol < 10 ? '0' + symbol : 'a' + symbol - 10);
    }

    // ---- rows: up to sixteen numbers of 4 bits in a long, number k in the bits from 4 * k on.
    // A WORD is one (by place, so it is never NONE), and so is what a CHIP stores (by LINE).

    private static int numberAt(long row, int k) {
        return (int) (row >>> 4 * k) & 15;
    }

    private static long withNumber(long row, int k, int number) {
        int shift = 4 * k;
        return row & ~(15L << shift) | (long) (number & 15) << shift;
    }

    private static boolean isIn(int set, int k) {
        return (set >> k & 1) != 0;
    }

    /** The field and the code: what needs no chip. */
    private static final class Code {

        private static final int[] POWERS = {1, 2, 4, 8, 3, 6, 12, 11, 5, 10, 7, 14, 15, 13, 9};

        /** Which POWER an ELEMENT is; 0 is none, and what stands for it here is never used. */
        private static final int[] EXPONENTS = {0, 0, 1, 4, 2, 8, 5, 10, 3, 14, 9, 7, 6, 13, 11, 12};

        private Code() {
        }

        static int timesPower(int element, int k) {
            if (element < 1 || element > MOST_ELEMENT || k < 0) {
                return 0;
            }
            return POWERS[(EXPONENTS[element] + k % PLACES) % PLACES];
        }

        static int product(int one, int two) {
            if (two < 1 || two > MOST_ELEMENT) {
                return 0;
            }
            return timesPower(one, EXPONENTS[two]);
        }

        private static int quotient(int one, int two) {
            if (two < 1 || two > MOST_ELEMENT) {
                return 0;
            }
            return timesPower(one, PLACES - EXPONENTS[two]);
        }

        static int sumOf(long word, int j) {
            int sum = 0;
            for (int place = 0; place < PLACES; place++) {
                sum ^= timesPower(numberAt(word, place), place * j);
            }
            return sum;
        }

        /** The set of places at which this row is not 0. */
        static int placesIn(long row) {
            int places = 0;
            for (int place = 0; place < PLACES; place++) {
                if (numberAt(row, place) != 0) {
                    places |= 1 << place;
                }
            }
            return places;
        }

        static long dataIn(long word) {
            return word >>> 4 * CHECKS;
        }

        /** The WORD of the CODE for DATA: its places 0 to 3 are found as if they were lost. */
        static long wordOf(long data) {
            return mendedWord(data << 4 * CHECKS, (1 << CHECKS) - 1);
        }

        /** The WORD that this one is MENDED to; NONE, if it is BAD. */
        static long mendedWord(long word, int erased) {
            if (Integer.bitCount(erased) > MOST_ERASED) {
                return NONE;
            }
            long sums = 0;
            for (int j = 1; j <= CHECKS; j++) {
                sums = withNumber(sums, j - 1, sumOf(word, j));
            }
            int errors = errorsBeside(erased, sums);
            if (errors == NONE) {
                return NONE;
            }
            int suspects = erased | errors;
            long mended = word;
            for (int place = 0; place < PLACES; place++) {
                if (isIn(suspects, place)) {
                    mended ^= withNumber(0, place, errorAt(place, suspects, sums));
                }
            }
            return mended;
        }

        /**
         * The fewest places outside of the ERASED ones that can explain the sums together with
         * these; NONE, if more of them would be needed than can be known.
         */
        private static int errorsBeside(int erased, long sums) {
            long left = sums;
            int count = CHECKS;
            for (int place = 0; place < PLACES; place++) {
                if (isIn(erased, place)) {
                    left = blindTo(place, left, count);
                    count--;
                }
            }
            if (left == 0) {
                return 0;
            }
            int only = onlyError(left, count);
            if (only != NONE && !isIn(erased, only)) {
                return 1 << only;
            }
            if (count < CHECKS) {
                return NONE;
            }
            for (int first = 0; first < PLACES; first++) {
                int second = onlyError(blindTo(first, left, count), count - 1);
                if (second != NONE && second != first) {
                    return 1 << first | 1 << second;
                }
            }
            return NONE;
        }

        /**
         * Sums, one fewer, that a symbol at this place has no part in: it has POWER(place) times as
         * much part in each sum as in the one before, so that times this one and the next cancel.
         */
        private static long blindTo(int place, long sums, int count) {
            long left = 0;
            for (int k = 0; k + 1 < count; k++) {
                left = withNumber(left, k, timesPower(numberAt(sums, k), place) ^ numberAt(sums, k + 1));
            }
            return left;
        }

        /** The place that an error must have if it alone made these sums; NONE, if none can. */
        private static int onlyError(long sums, int count) {
            int first = numberAt(sums, 0);
            int second = numberAt(sums, 1);
            if (count < 2 || first == 0 || second == 0) {
                return NONE;
            }
            int place = (EXPONENTS[second] - EXPONENTS[first] + PLACES) % PLACES;
            for (int k = 1; k < count; k++) {
                if (timesPower(numberAt(sums, k - 1), place) != numberAt(sums, k)) {
                    return NONE;
                }
            }
            return place;
        }

        /** What is wrong at a place, if what is wrong at these suspects (4 at most) made the sums. */
        private static int errorAt(int place, int suspects, long sums) {
            long left = sums;
            int count = CHECKS;
            int here = timesPower(1, place);
            int factor = here;
            for (int other = 0; other < PLACES; other++) {
                if (other != place && isIn(suspects, other)) {
                    left = blindTo(other, left, count);
                    count--;
                    factor = product(factor, here ^ timesPower(1, other));
                }
            }
            return quotient(numberAt(left, 0), factor);
        }
    }

    /** A CHIP with what it stores and all that is wrong with it. */
    private static final class Chip {

        final int number;
        int place;
        int key = NONE;
        int blame = 0;
        boolean isErased = false;
        boolean isOut = false;
        private long storedRow = 0;
        private long masks = 0;
        private long values = 0;

        Chip(int number, int place) {
            this.number = number;
            this.place = place;
        }

        static int madSymbol(int key, int line) {
            return key + line & 15;
        }

        int storedAt(int line) {
            return numberAt(storedRow, line);
        }

        void putAt(int line, int symbol) {
            storedRow = withNumber(storedRow, line, symbol);
        }

        int readAt(int line) {
            if (key != NONE) {
                return madSymbol(key, line);
            }
            int mask = numberAt(masks, line);
            return numberAt(storedRow, line) & ~mask | numberAt(values, line) & mask;
        }

        void stickCell(int line, int mask, int value) {
            masks = withNumber(masks, line, mask);
            values = withNumber(values, line, value);
        }

        int stuckCells() {
            int stuck = 0;
            for (int line = 0; line < LINES; line++) {
                if (numberAt(masks, line) != 0) {
                    stuck++;
                }
            }
            return stuck;
        }
    }

    /** The BANK: the CHIPS and their SEATS, FETCHES and the PATROL. */
    private static final class Memory {

        final Chip[] chips = new Chip[CHIPS];
        final Chip[] seats = new Chip[PLACES];
        int limit = FIRST_LIMIT;
        int patrolLine = 0;
        int fetches = 0;
        int lost = 0;
        int mendedPlaces = 0;
        private int nextSpare = PLACES;

        Memory() {
            for (int chip = 0; chip < CHIPS; chip++) {
                chips[chip] = new Chip(chip, chip < PLACES ? chip : NONE);
            }
            for (int place = 0; place < PLACES; place++) {
                seats[place] = chips[place];
            }
        }

        long readWord(int line) {
            long word = 0;
            for (int place = 0; place < PLACES; place++) {
                word = withNumber(word, place, seats[place].readAt(line));
            }
            return word;
        }

        void writeWord(int line, long word) {
            for (int place = 0; place < PLACES; place++) {
                seats[place].putAt(line, numberAt(word, place));
            }
        }

        int erasedPlaces() {
            int erased = 0;
            for (int place = 0; place < PLACES; place++) {
                if (seats[place].isErased) {
                    erased |= 1 << place;
                }
            }
            return erased;
        }

        long wordMendedTo(int line) {
            return Code.mendedWord(readWord(line), erasedPlaces());
        }

        int badLines() {
            int erased = erasedPlaces();
            int bad = 0;
            for (int line = 0; line < LINES; line++) {
                if (Code.mendedWord(readWord(line), erased) == NONE) {
                    bad++;
                }
            }
            return bad;
        }

        /** FETCHES a LINE; answers the WORD that it was MENDED to, or NONE. */
        long fetchLine(int line) {
            long read = readWord(line);
            long word = Code.mendedWord(read, erasedPlaces());
            fetches++;
            if (word == NONE) {
                lost++;
            } else if (word != read) {
                countMended(Code.placesIn(read ^ word));
                writeWord(line, word);
            }
            eraseBlamed();
            return word;
        }

        private void countMended(int wrong) {
            mendedPlaces += Integer.bitCount(wrong);
            for (int place = 0; place < PLACES; place++) {
                if (isIn(wrong, place) && !seats[place].isErased) {
                    seats[place].blame++;
                }
            }
        }

        private void eraseBlamed() {
            int count = Integer.bitCount(erasedPlaces());
            for (int place = 0; place < PLACES && count < MOST_ERASED; place++) {
                Chip chip = seats[place];
                if (chip.blame >= limit && !chip.isErased) {
                    chip.isErased = true;
                    count++;
                }
            }
        }

        long stepPatrol() {
            int line = patrolLine;
            patrolLine = (line + 1) % LINES;
            return fetchLine(line);
        }

        int sparesLeft() {
            return CHIPS - nextSpare;
        }

        int chipsOut() {
            int out = 0;
            for (int chip = 0; chip < CHIPS; chip++) {
                if (chips[chip].isOut) {
                    out++;
                }
            }
            return out;
        }

        /** REPLACES a place; without a SPARE nothing is done. */
        void replaceAt(int place) {
            if (nextSpare >= CHIPS) {
                return;
            }
            Chip spare = chips[nextSpare];
            nextSpare++;
            fillFor(place, spare);
            Chip old = seats[place];
            old.place = NONE;
            old.isOut = true;
            spare.place = place;
            seats[place] = spare;
        }

        /** Puts on a SPARE what belongs to a place that another CHIP still has. */
        private void fillFor(int place, Chip spare) {
            int erased = erasedPlaces();
            if (Integer.bitCount(erased | 1 << place) <= MOST_ERASED) {
                erased |= 1 << place;
            }
            for (int line = 0; line < LINES; line++) {
                long read = readWord(line);
                long word = Code.mendedWord(read, erased);
                spare.putAt(line, numberAt(word == NONE ? read : word, place));
            }
        }

        boolean areSeatsSound() {
            int seated = 0;
            for (int place = 0; place < PLACES; place++) {
                Chip chip = seats[place];
                if (chip.isOut || isIn(seated, chip.number)) {
                    return false;
                }
                seated |= 1 << chip.number;
            }
            return true;
        }
    }

    /** A FRAME; instead of DATA it has the WORD of the CODE for them. */
    private static final class Frame {

        final int number;
        int line = NONE;
        long word = NONE;
        boolean isDirty = false;
        int time = 0;

        Frame(int number) {
            this.number = number;
        }
    }

    /** The CACHE in front of the BANK. */
    private static final class Cache {

        final Frame[] frames = new Frame[FRAMES];
        int hits = 0;
        int misses = 0;
        private int uses = 0;
        private final Memory memory;

        Cache(Memory memory) {
            this.memory = memory;
            for (int frame = 0; frame < FRAMES; frame++) {
                frames[frame] = new Frame(frame);
            }
        }

        /** LOADS: answers the WORD for the DATA of a LINE, or NONE. */
        long wordThrough(int line) {
            Frame frame = frameOf(line);
            if (frame != null) {
                hits++;
                use(frame);
                return frame.word;
            }
            misses++;
            long word = memory.fetchLine(line);
            if (word != NONE) {
                fill(frameToFill(), line, word);
            }
            return word;
        }

        /** STORES the WORD for the DATA of a LINE; answers the number of the FRAME. */
        int keepDirty(int line, long word) {
            Frame frame = frameOf(line);
            if (frame != null) {
                hits++;
            } else {
                misses++;
                frame = frameToFill();
            }
            fill(frame, line, word);
            frame.isDirty = true;
            return frame.number;
        }

        /** FLUSHES; answers how many FRAMES were DIRTY. */
        int writeBackAll() {
            int dirty = dirtyFrames();
            for (int frame = 0; frame < FRAMES; frame++) {
                writeBack(frames[frame]);
            }
            return dirty;
        }

        int dirtyFrames() {
            int dirty = 0;
            for (int frame = 0; frame < FRAMES; frame++) {
                if (frames[frame].isDirty) {
                    dirty++;
                }
            }
            return dirty;
        }

        boolean areFramesSound() {
            for (int one = 0; one < FRAMES; one++) {
                for (int two = one + 1; two < FRAMES; two++) {
                    Frame first = frames[one];
                    Frame second = frames[two];
                    boolean isEither = first.line == second.line || first.time == second.time;
                    if (first.line != NONE && second.line != NONE && isEither) {
                        return false;
                    }
                }
            }
            return true;
        }

        private Frame frameOf(int line) {
            for (int frame = 0; frame < FRAMES; frame++) {
                if (frames[frame].line == line) {
                    return frames[frame];
                }
            }
            return null;
        }

        /** The FRAME for another LINE, its own DATA written if need be. */
        private Frame frameToFill() {
            Frame oldest = frames[0];
            for (int frame = 1; frame < FRAMES; frame++) {
                // An empty FRAME has the TIME 0, so the first empty one goes ahead of all others.
                if (frames[frame].time < oldest.time) {
                    oldest = frames[frame];
                }
            }
            writeBack(oldest);
            return oldest;
        }

        private void writeBack(Frame frame) {
            if (frame.isDirty) {
                memory.writeWord(frame.line, frame.word);
                frame.isDirty = false;
            }
        }

        private void fill(Frame frame, int line, long word) {
            frame.line = line;
            frame.word = word;
            use(frame);
        }

        private void use(Frame frame) {
            uses++;
            frame.time = uses;
        }
    }
}
