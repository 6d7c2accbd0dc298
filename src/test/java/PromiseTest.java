import java.math.BigInteger;
import java.util.function.LongConsumer;
import java.util.function.LongUnaryOperator;

/** Promise by promise: ordinary inputs, the edges that the document names, and wrong inputs. */
public final class PromiseTest {

    private static final int NONE = -1;
    private static final long MOST_DATA = (1L << 44) - 1;
    private static final Class<?> OUT = IndexOutOfBoundsException.class;
    private static final Class<?> ARGUMENT = IllegalArgumentException.class;
    private static final Class<?> STATE = IllegalStateException.class;
    private static final Due due = new Due();

    public static void main(String[] args) {
        aNewObject();
        write();
        stick();
        mad();
        ray();
        erase();
        replace();
        replaceLineByLine();
        limit();
        fetch();
        fetchErasesTheBlamed();
        patrol();
        load();
        store();
        flush();
        call();
        times();
        power();
        symbol();
        fooled();
        seen();
        sum();
        mended();
        mendedAnywhere();
        data();
        ofChip();
        stored();
        ofFrame();
        held();
        bank();
        row();
        wouldMend();
        spare();
        wouldLose();
        health();
        isSound();
        digest();
        due.end();
    }

    // ---- helpers

    /** Three errors that are BAD in any WORD of the CODE without ERASED places. */
    private static void spoil(Chipfield x, int line) {
        x.ray(0, line, 1);
        x.ray(1, line, 2);
        x.ray(2, line, 3);
    }

    /** A call with one argument throws for each of these, and changes nothing. */
    private static void wrong(String what, Class<?> want, Chipfield x, LongUnaryOperator call, long... given) {
        for (long one : given) {
            due.throwsAndKeeps(what + " with " + one, want, x, () -> call.applyAsLong(one));
        }
    }

    private static Chipfield used() {
        Chipfield x = new Chipfield();
        x.write(0, 1);
        x.write(5, 123456789L);
        x.ray(9, 5, 4);
        x.stick(11, 3, 7, 2);
        x.erase(6, true);
        x.store(2, 77);
        x.fetch(5);
        return x;
    }

    private static int erasedAmong(Chipfield x) {
        int set = 0;
        for (int chip = 0; chip < 18; chip++) {
            set |= x.ofChip(chip, 3) << chip;
        }
        return set;
    }

    // ---- 1

    private static void aNewObject() {
        due.part("1 a new object");
        Chipfield x = new Chipfield();
        int[] bank = {0, 0, 0, 3, 0, 0, 0, 0, 0, 0, 0, 4, 0};
        for (int what = 0; what < bank.length; what++) {
            due.is("bank " + what, bank[what], x.bank(what));
        }
        for (int chip = 0; chip < 18; chip++) {
            int[] told = {chip < 15 ? chip : NONE, NONE, 0, 0, 0, 0};
            for (int what = 0; what < told.length; what++) {
                due.is("chip " + chip + ", " + what, told[what], x.ofChip(chip, what));
            }
            for (int line = 0; line < 16; line++) {
                due.is("stored on " + chip, 0, x.stored(chip, line));
            }
        }
        for (int line = 0; line < 16; line++) {
            due.is("row " + line, "000000000000000", x.row(line));
        }
        x.ray(0, 0, 1);
        due.is("another object", 0, new Chipfield().stored(0, 0));
    }

    // ---- 2 to 8

    private static void write() {
        due.part("2 write");
        Chipfield x = new Chipfield();
        due.is("write 1", 5, x.write(0, 1));
        due.is("row", "78cd10000000000", x.row(0));
        due.is("row of another", "000000000000000", x.row(1));
        due.is("the same again", 0, x.write(0, 1));
        due.is("back to 0", 5, x.write(0, 0));
        x.write(15, MOST_DATA);
        due.is("greatest data", MOST_DATA, x.data(15));
        due.is("its first place", 15, x.seen(15, 4));
        due.is("its last place", 15, x.seen(15, 14));
        due.is("its sum", 0, x.sum(15, 4));
        x.mad(4, 9);
        x.erase(1, true);
        x.stick(2, 0, 12, 12);
        due.is("a mad chip reads as before, and so does a stuck one", 3, x.write(0, 1));
        due.is("stored on the mad chip", 1, x.stored(4, 0));
        due.is("stored on the erased chip", 8, x.stored(1, 0));
        due.is("back to 0 again", 3, x.write(0, 0));

        Chipfield y = new Chipfield();
        y.store(3, 9);
        y.write(3, 5);
        due.is("the cache is passed by", 9, y.held(0));
        due.is("still dirty", 1, y.bank(9));
        due.is("not cached", 0, y.bank(7) + y.bank(0));
        due.is("nearest data", 5, y.data(3));

        Chipfield z = used();
        wrong("write line", OUT, z, line -> z.write((int) line, 1), -1, 16, Integer.MAX_VALUE, Integer.MIN_VALUE);
        wrong("write data", ARGUMENT, z, data -> z.write(0, data), -1, MOST_DATA + 1, Long.MIN_VALUE, Long.MAX_VALUE);
        wrong("write both", OUT, z, line -> z.write((int) line, -1), -1, 16);
    }

    private static void stick() {
        due.part("3 stick");
        Chipfield x = new Chipfield();
        due.is("one cell", 1, x.stick(3, 2, 6, 15));
        due.is("only the bits of the mask", 6, x.seen(2, 3));
        due.is("what is stored stays", 0, x.stored(3, 2));
        x.write(2, 1);
        due.is("the other bits are stored ones", 15, x.seen(2, 3));
        due.is("told anew", 1, x.stick(3, 2, 1, 0));
        due.is("the new one stands alone", 12, x.seen(2, 3));
        due.is("another line", 2, x.stick(3, 15, 15, 0));
        due.is("value 0 with mask is stuck", 0, x.seen(15, 3));
        due.is("another chip counts for itself", 1, x.stick(17, 0, 1, 1));
        due.is("free again", 1, x.stick(3, 2, 0, 5));
        due.is("reads what is stored", 13, x.seen(2, 3));
        due.is("free what is not stuck", 1, x.stick(3, 7, 0, 15));
        due.is("other lines were not touched", 0, x.seen(3, 3));

        Chipfield z = used();
        wrong("stick chip", OUT, z, chip -> z.stick((int) chip, 0, 1, 1), -1, 18);
        wrong("stick line", OUT, z, line -> z.stick(0, (int) line, 1, 1), -1, 16);
        wrong("stick mask", ARGUMENT, z, mask -> z.stick(0, 0, (int) mask, 1), -1, 16);
        wrong("stick value", ARGUMENT, z, value -> z.stick(0, 0, 1, (int) value), -1, 16);
        wrong("stick value with mask 0", ARGUMENT, z, value -> z.stick(11, 3, 0, (int) value), -1, 16);
        wrong("stick all", OUT, z, line -> z.stick(0, (int) line, 16, 16), -1, 16);
    }

    private static void mad() {
        due.part("4 mad");
        Chipfield x = new Chipfield();
        x.stick(3, 2, 15, 1);
        due.is("was sane", NONE, x.mad(3, 5));
        due.is("key and line, not the stuck cell", 7, x.seen(2, 3));
        due.is("modulo 16", 4, x.seen(15, 3));
        due.is("key before", 5, x.mad(3, 0));
        due.is("key 0", 0, x.seen(0, 3));
        due.is("key 0 before", 0, x.mad(3, 15));
        due.is("key 15", 15, x.seen(0, 3));
        due.is("sane again", 15, x.mad(3, NONE));
        due.is("the stuck cell again", 1, x.seen(2, 3));
        due.is("sane twice", NONE, x.mad(3, NONE));
        due.is("a spare", NONE, x.mad(17, 1));
        Chipfield z = used();
        wrong("mad chip", OUT, z, chip -> z.mad((int) chip, 1), -1, 18);
        wrong("mad key", ARGUMENT, z, key -> z.mad(0, (int) key), -2, 16);
        wrong("mad both", OUT, z, chip -> z.mad((int) chip, 16), -1, 18);
    }

    private static void ray() {
        due.part("5 ray");
        Chipfield x = new Chipfield();
        due.is("first", 5, x.ray(16, 3, 5));
        due.is("xor", 6, x.ray(16, 3, 3));
        due.is("all bits", 9, x.ray(16, 3, 15));
        due.is("there alone", 0, x.stored(16, 2) + x.stored(15, 3));
        x.mad(4, 2);
        x.stick(5, 0, 15, 0);
        due.is("on a mad chip", 8, x.ray(4, 0, 8));
        due.is("in a stuck cell", 8, x.ray(5, 0, 8));
        due.is("read as mad", 2, x.seen(0, 4));
        due.is("read as stuck", 0, x.seen(0, 5));
        Chipfield z = used();
        wrong("ray chip", OUT, z, chip -> z.ray((int) chip, 0, 1), -1, 18);
        wrong("ray line", OUT, z, line -> z.ray(0, (int) line, 1), -1, 16);
        wrong("ray mask", ARGUMENT, z, mask -> z.ray(0, 0, (int) mask), -1, 0, 16);
        wrong("ray both", OUT, z, line -> z.ray(0, (int) line, 0), -1, 16);
    }

    private static void erase() {
        due.part("6 erase");
        Chipfield x = new Chipfield();
        due.is("one", 1, x.erase(0, true));
        due.is("the same", 1, x.erase(0, true));
        due.is("two", 2, x.erase(14, true));
        due.is("three", 3, x.erase(5, true));
        due.is("four", 4, x.erase(6, true));
        due.is("one of the four again", 4, x.erase(6, true));
        due.is("not erased, not so any more", 4, x.erase(9, false));
        wrong("erase a fifth", STATE, x, place -> x.erase((int) place, true), 1, 13);
        wrong("erase out of bounds", OUT, x, place -> x.erase((int) place, true), -1, 15);
        wrong("not erase out of bounds", OUT, x, place -> x.erase((int) place, false), -1, 15);
        due.is("three again", 3, x.erase(14, false));
        due.is("one more", 4, x.erase(1, true));
        due.is("which", 1 | 2 | 32 | 64, erasedAmong(x));
        x.replace(5);
        due.is("the chip that is out does not count", 4, x.erase(5, true));
        due.is("its chip has the mark", 1, x.ofChip(15, 3));
    }

    private static void replace() {
        due.part("7 replace");
        Chipfield x = new Chipfield();
        x.write(3, MOST_DATA);
        x.mad(3, 5);
        x.erase(3, true);
        x.mad(16, 1);
        x.stick(17, 0, 15, 7);
        due.is("first spare", 15, x.replace(3));
        int[] old = {NONE, 5, 0, 1, 1, 0};
        for (int what = 0; what < old.length; what++) {
            due.is("old chip, " + what, old[what], x.ofChip(3, what));
        }
        int[] taken = {3, NONE, 0, 0, 0, 0};
        for (int what = 0; what < taken.length; what++) {
            due.is("new chip, " + what, taken[what], x.ofChip(15, what));
        }
        due.is("mended symbol", x.symbol(MOST_DATA, 3), x.stored(15, 3));
        due.is("row", 0, x.mended(3));
        due.is("bank: spares, erased, out", 200 + 1, x.bank(3) * 100 + x.bank(4) * 10 + x.bank(5));
        x.write(3, 1);
        due.is("the old chip is not written", 0, x.stored(3, 0));
        due.is("the new one is", 13, x.stored(15, 3));
        due.is("the same place again", 16, x.replace(3));
        due.is("the second spare was mad", 1 + 3, x.seen(3, 3));
        due.is("but holds the symbol", 13, x.stored(16, 3));
        due.is("last spare", 17, x.replace(0));
        due.is("it was stuck", 7, x.seen(0, 0));
        due.is("no spare", 0, x.bank(3));
        due.is("three are out, the first chip too", 3, x.bank(5));
        wrong("replace without spare", STATE, x, place -> x.replace((int) place), 0, 3, 14);
        wrong("replace out of bounds", OUT, x, place -> x.replace((int) place), -1, 15);
        Chipfield z = used();
        wrong("replace out of bounds with spares", OUT, z, place -> z.replace((int) place), -1, 15);
    }

    private static void replaceLineByLine() {
        due.part("7 replace line by line");
        Chipfield x = new Chipfield();
        x.mad(2, 5);
        x.ray(9, 4, 1);
        x.ray(5, 1, 1);
        x.ray(6, 1, 1);
        x.ray(7, 1, 2);
        due.is("bad with this place erased", NONE, x.wouldMend(1, 4));
        x.replace(2);
        due.is("of a bad line what is read", 6, x.stored(15, 1));
        due.is("of others what is mended", 0, x.stored(15, 0) + x.stored(15, 4) + x.stored(15, 15));
        due.is("the others' errors stay", 1, x.stored(9, 4));
        due.is("nothing is counted", 0, x.bank(0) + x.bank(1) + x.bank(2) + x.ofChip(9, 2) + x.ofChip(2, 2));

        Chipfield y = new Chipfield();
        y.mad(2, 5);
        y.erase(5, true);
        y.erase(6, true);
        y.erase(7, true);
        due.is("this place counts as erased", 15, y.replace(2));
        due.is("mended", 0, y.stored(15, 0) + y.stored(15, 8) + y.bank(10));

        Chipfield z = new Chipfield();
        z.mad(2, 5);
        for (int place = 5; place < 9; place++) {
            z.erase(place, true);
        }
        z.replace(2);
        due.is("not as a fifth", 5 + 8, z.stored(15, 8));
        due.is("but four are", 4, z.bank(4));

        Chipfield blamed = new Chipfield();
        blamed.ray(2, 0, 1);
        blamed.fetch(0);
        blamed.replace(2);
        due.is("the old blame stays", 1, blamed.ofChip(2, 2));
        due.is("the new begins at 0", 0, blamed.ofChip(15, 2));
    }

    private static void limit() {
        due.part("8 limit");
        Chipfield x = new Chipfield();
        due.is("first", 4, x.limit(1));
        due.is("before", 1, x.limit(99));
        due.is("before", 99, x.limit(2));
        x.ray(1, 0, 1);
        x.fetch(0);
        due.is("below", 0, x.bank(4));
        x.limit(1);
        due.is("not before a fetch ends", 0, x.bank(4));
        x.fetch(9);
        due.is("as any fetch ends", 1, x.ofChip(1, 3));
        Chipfield z = used();
        wrong("limit", ARGUMENT, z, limit -> z.limit((int) limit), 0, -1, 100, Integer.MAX_VALUE);
        due.is("limit still", 4, z.bank(11));
    }

    // ---- 9 to 14

    private static void fetch() {
        due.part("9 fetch");
        Chipfield x = new Chipfield();
        x.write(0, 1);
        due.is("nothing wrong", 0, x.fetch(0));
        x.ray(4, 0, 3);
        x.ray(9, 0, 15);
        due.is("two", 2, x.fetch(0));
        due.is("written back", "78cd10000000000", x.row(0));
        due.is("blamed", 11, x.ofChip(4, 2) * 10 + x.ofChip(9, 2));
        due.is("not blamed", 0, x.ofChip(0, 2));
        due.is("places ever", 2, x.bank(2));
        spoil(x, 0);
        String before = x.row(0);
        due.is("bad", NONE, x.fetch(0));
        due.is("nothing stored is changed", before, x.row(0));
        due.is("lost", 1, x.bank(1));
        due.is("fetches", 3, x.bank(0));
        due.is("blamed no one", 0, x.ofChip(0, 2) + x.ofChip(1, 2) + x.ofChip(2, 2));
        x.erase(0, true);
        x.erase(1, true);
        due.is("two erased and another", 3, x.fetch(0));
        due.is("erased ones are not blamed", 1, x.ofChip(0, 2) + x.ofChip(1, 2) + x.ofChip(2, 2));
        due.is("but are counted", 5, x.bank(2));
        due.is("whole again", 1, x.data(0));

        Chipfield stuck = new Chipfield();
        stuck.stick(7, 2, 15, 9);
        stuck.mad(8, 1);
        stuck.ray(8, 2, 6);
        due.is("stuck and mad", 2, stuck.fetch(2));
        due.is("again", 2, stuck.fetch(2));
        due.is("blamed twice", 2, stuck.ofChip(7, 2));
        due.is("written beneath", 0, stuck.stored(8, 2) + stuck.stored(7, 2));

        Chipfield z = used();
        wrong("fetch", OUT, z, line -> z.fetch((int) line), -1, 16, Integer.MIN_VALUE);
    }

    private static void fetchErasesTheBlamed() {
        due.part("9 fetch erases the blamed");
        Chipfield x = new Chipfield();
        x.mad(3, 5);
        x.fetch(2);
        x.fetch(2);
        x.fetch(2);
        due.is("three times", 0, x.ofChip(3, 3));
        x.fetch(2);
        due.is("four times", 1, x.ofChip(3, 3));
        x.fetch(2);
        due.is("blame stays", 4, x.ofChip(3, 2));
        x.erase(3, false);
        x.fetch(11);
        due.is("again at the next fetch", 1, x.ofChip(3, 3));

        Chipfield bad = new Chipfield();
        bad.ray(6, 0, 1);
        bad.fetch(0);
        bad.limit(1);
        spoil(bad, 1);
        due.is("a fetch that is bad", NONE, bad.fetch(1));
        due.is("erases too", 1, bad.ofChip(6, 3));

        Chipfield many = new Chipfield();
        many.replace(0);
        many.limit(99);
        for (int place = 4; place >= 0; place--) {
            many.ray(many.ofChip(15, 0) == place ? 15 : place, place, 1);
            many.fetch(place);
        }
        many.limit(1);
        many.fetch(15);
        due.is("place by place, as long as fewer than 4 are", 1 << 15 | 2 | 4 | 8, erasedAmong(many));
        due.is("the fifth was blamed", 1, many.ofChip(4, 2));
        many.replace(1);
        many.fetch(15);
        due.is("it follows", 1 << 15 | 2 | 4 | 8 | 16, erasedAmong(many));
    }

    private static void patrol() {
        due.part("10 patrol");
        Chipfield x = new Chipfield();
        spoil(x, 1);
        spoil(x, 15);
        x.ray(9, 0, 1);
        due.is("one step", 0, x.patrol(1));
        due.is("goes on", 1, x.bank(6));
        due.is("fetched", 1, x.bank(0) * x.bank(2) * x.ofChip(9, 2));
        due.is("one bad", 1, x.patrol(1));
        due.is("bad", 1, x.patrol(14));
        due.is("round", 0, x.bank(6));
        due.is("most", 5, x.patrol(40));
        due.is("at", 8, x.bank(6));
        due.is("lost ever", 7, x.bank(1));
        due.is("fetches ever", 56, x.bank(0));
        x.fetch(3);
        due.is("a fetch does not move it", 8, x.bank(6));
        Chipfield z = used();
        wrong("patrol", ARGUMENT, z, steps -> z.patrol((int) steps), 0, -1, 41, Integer.MAX_VALUE);
    }

    private static void load() {
        due.part("11 load");
        Chipfield x = new Chipfield();
        x.write(3, 40);
        x.ray(5, 3, 1);
        due.is("a miss", 40, x.load(3));
        due.is("fetched", 1, x.bank(0) * x.bank(2));
        due.is("miss, clean, time", 10, x.bank(8) * 10 + x.bank(7) + x.bank(9));
        x.write(3, 41);
        due.is("a hit", 40, x.load(3));
        due.is("time", 2, x.ofFrame(0, 2));
        due.is("no fetch", 1, x.bank(0));
        spoil(x, 4);
        due.is("bad", NONE, x.load(4));
        due.is("bad is a miss, fetched and lost", 221, x.bank(8) * 100 + x.bank(0) * 10 + x.bank(1));
        due.is("no frame is taken", NONE, x.ofFrame(1, 0));
        x.load(5);
        due.is("no use was counted", 3, x.ofFrame(1, 2));
        x.store(6, 66);
        x.load(7);
        x.load(3);
        x.load(5);
        due.is("dirty and oldest", 6, x.ofFrame(2, 0));
        due.is("not written yet", 0, x.data(6));
        due.is("takes the oldest", 0, x.load(8));
        due.is("there", 8, x.ofFrame(2, 0));
        due.is("clean", 0, x.ofFrame(2, 1));
        due.is("written ahead", 66, x.data(6));
        x.load(9);
        due.is("then the next oldest", 9, x.ofFrame(3, 0));
        x.store(9, MOST_DATA);
        due.is("what was stored", MOST_DATA, x.load(9));
        due.is("still dirty", 1, x.ofFrame(3, 1));

        Chipfield bad = new Chipfield();
        for (int line = 0; line < 4; line++) {
            bad.store(line, 5);
        }
        spoil(bad, 9);
        due.is("bad with all dirty", NONE, bad.load(9));
        due.is("none is written", 4, bad.bank(9));
        due.is("stored", 0, bad.data(0));
        Chipfield z = used();
        wrong("load", OUT, z, line -> z.load((int) line), -1, 16);
    }

    private static void store() {
        due.part("12 store");
        Chipfield x = new Chipfield();
        due.is("first frame", 0, x.store(7, 10));
        due.is("second", 1, x.store(1, 20));
        due.is("the same line", 0, x.store(7, 11));
        due.is("hit and misses", 12, x.bank(7) * 10 + x.bank(8));
        due.is("third", 2, x.store(2, 30));
        due.is("fourth", 3, x.store(3, 40));
        due.is("nothing is written", 0, x.data(7) + x.data(1));
        due.is("nothing is fetched", 0, x.bank(0));
        due.is("the oldest", 1, x.store(4, 50));
        due.is("it was written ahead", 20, x.data(1));
        due.is("the others not", 0, x.data(7));
        due.is("dirty", 4, x.bank(9));
        x.flush();
        due.is("clean one again", 0, x.store(7, MOST_DATA));
        due.is("is dirty", 1, x.ofFrame(0, 1));
        due.is("time", 7, x.ofFrame(0, 2));
        spoil(x, 12);
        due.is("a bad line", 2, x.store(12, 3));
        x.flush();
        due.is("is written over", 3, x.data(12));
        due.is("without loss", 0, x.bank(1));
        Chipfield z = used();
        wrong("store line", OUT, z, line -> z.store((int) line, 1), -1, 16);
        wrong("store data", ARGUMENT, z, data -> z.store(0, data), -1, MOST_DATA + 1, Long.MIN_VALUE);
        wrong("store both", OUT, z, line -> z.store((int) line, -1), -1, 16);
    }

    private static void flush() {
        due.part("13 flush");
        Chipfield x = new Chipfield();
        due.is("empty", 0, x.flush());
        x.store(0, 10);
        x.load(1);
        x.store(2, 30);
        due.is("two are dirty", 2, x.flush());
        due.is("written", 1030, x.data(0) * 100 + x.data(2));
        due.is("clean", 0, x.bank(9));
        due.is("again", 0, x.flush());
        due.is("they stay, with their times", 123, x.ofFrame(0, 2) * 100 + x.ofFrame(1, 2) * 10 + x.ofFrame(2, 2));
        due.is("no fetch but one", 1, x.bank(0));
        x.write(0, 99);
        x.flush();
        due.is("a clean one is not written", 99, x.data(0));
    }

    private static void call() {
        due.part("14 call");
        Chipfield x = new Chipfield();
        due.is("refused", 1, x.call());
        due.is("again", 2, x.call());
        due.is("counted", 2, x.bank(12));
        due.is("by each object", 1, new Chipfield().call());
    }

    // ---- 15 to 18

    private static void times() {
        due.part("15 times");
        Chipfield x = new Chipfield();
        due.is("2 * 8", 3, x.times(2, 8));
        due.is("3 * 7", 9, x.times(3, 7));
        due.is("15 * 15", 10, x.times(15, 15));
        for (int one = 0; one < 16; one++) {
            Chipfield y = new Chipfield();
            due.is("by 0", 0, y.times(one, 0) + y.times(0, one));
            due.is("by 1", one, y.times(one, 1));
            for (int two = 0; two < 16; two++) {
                due.is("distributes", y.times(one, two) ^ y.times(one, 6), y.times(one, two ^ 6));
                due.is("doubles", y.times(2, y.times(one, two)), y.times(y.times(2, one), two));
            }
        }
        Chipfield z = used();
        wrong("times one", ARGUMENT, z, one -> z.times((int) one, 0), -1, 16, Integer.MIN_VALUE);
        wrong("times two", ARGUMENT, z, two -> z.times(0, (int) two), -1, 16, Integer.MAX_VALUE);
    }

    private static void power() {
        due.part("16 power");
        int[] powers = {1, 2, 4, 8, 3, 6, 12, 11, 5, 10, 7, 14, 15, 13, 9};
        for (int k = 0; k <= 999; k++) {
            due.is("power " + k, powers[k % 15], new Chipfield().power(k));
        }
        Chipfield z = used();
        wrong("power", ARGUMENT, z, k -> z.power((int) k), -1, 1000, Integer.MIN_VALUE, Integer.MAX_VALUE);
    }

    private static void symbol() {
        due.part("17 symbol");
        Chipfield x = new Chipfield();
        int[] one = {7, 8, 12, 13, 1, 0, 0, 0, 0, 0, 0, 0, 0, 0, 0};
        for (int place = 0; place < 15; place++) {
            due.is("of 1", one[place], x.symbol(1, place));
            due.is("of 0", 0, x.symbol(0, place));
            due.is("of the greatest", 15, x.symbol(MOST_DATA, place));
        }
        due.is("place 14", 9, x.symbol(9L << 40, 14));
        due.is("place 5", 3, x.symbol(0x135, 5));
        Chipfield z = used();
        wrong("symbol place", OUT, z, place -> z.symbol(0, (int) place), -1, 15);
        wrong("symbol data", ARGUMENT, z, data -> z.symbol(data, 0), -1, MOST_DATA + 1);
        wrong("symbol both", OUT, z, place -> z.symbol(-1, (int) place), -1, 15);
    }

    private static void fooled() {
        due.part("18 fooled");
        Chipfield x = new Chipfield();
        due.is("0, 1, 2", 5, x.fooled(0, 1, 2, 1, 1));
        due.is("3, 7, 11", 4, x.fooled(3, 7, 11, 5, 9));
        for (int first = 0; first < 15; first += 7) {
            for (int three = 1; three < 4; three++) {
                int second = (first + 4) % 15;
                int third = (first + 9) % 15;
                due.is("as it is seen", foolsSeen(first, second, third, 6, three), x.fooled(first, second, third, 6, three));
            }
        }
        x.erase(0, true);
        x.ray(1, 0, 1);
        due.is("whatever is erased or stored", 5, x.fooled(0, 1, 2, 1, 1));
        Chipfield z = used();
        wrong("fooled first", OUT, z, p -> z.fooled((int) p, 1, 2, 1, 1), -1, 15);
        wrong("fooled second", OUT, z, p -> z.fooled(0, (int) p, 2, 1, 1), -1, 15);
        wrong("fooled third", OUT, z, p -> z.fooled(0, 1, (int) p, 1, 1), -1, 15);
        wrong("fooled the same", ARGUMENT, z, p -> z.fooled((int) p, 1, 2, 1, 1), 1, 2);
        wrong("fooled the same third", ARGUMENT, z, p -> z.fooled(0, 1, (int) p, 1, 1), 0, 1);
        wrong("fooled one", ARGUMENT, z, e -> z.fooled(0, 1, 2, (int) e, 1), -1, 0, 16);
        wrong("fooled two", ARGUMENT, z, e -> z.fooled(0, 1, 2, 1, (int) e), -1, 0, 16);
        wrong("fooled the same out of bounds", OUT, z, p -> z.fooled((int) p, (int) p, 2, 0, 0), -1, 15);
        wrong("fooled out of bounds behind the same", OUT, z, p -> z.fooled(0, 0, (int) p, 0, 0), -1, 15);
    }

    private static int foolsSeen(int first, int second, int third, int one, int two) {
        int count = 0;
        for (int three = 1; three < 16; three++) {
            Chipfield x = new Chipfield();
            x.write(0, 987654321L);
            x.ray(first, 0, one);
            x.ray(second, 0, two);
            x.ray(third, 0, three);
            count += x.mended(0) == NONE ? 0 : 1;
        }
        return count;
    }

    // ---- 19 to 28

    private static void seen() {
        due.part("19 seen");
        Chipfield x = new Chipfield();
        x.write(0, 1);
        due.is("place 0", 7, x.seen(0, 0));
        due.is("place 14", 0, x.seen(0, 14));
        x.erase(0, true);
        due.is("erased, but read", 7, x.seen(0, 0));
        x.replace(0);
        x.ray(0, 0, 15);
        due.is("its new chip", 7, x.seen(0, 0));
        Chipfield z = used();
        wrong("seen line", OUT, z, line -> z.seen((int) line, 0), -1, 16);
        wrong("seen place", OUT, z, place -> z.seen(0, (int) place), -1, 15);
    }

    private static void sum() {
        due.part("20 sum");
        Chipfield x = new Chipfield();
        x.write(0, 1);
        int[] sums = {0, 5, 15, 2, 6};
        for (int j = 1; j <= 4; j++) {
            due.is("of the code", 0, x.sum(0, j));
            x.ray(4, 0, 3);
            due.is("with an error, " + j, sums[j], x.sum(0, j));
            x.ray(4, 0, 3);
        }
        x.mad(0, 7);
        x.erase(0, true);
        due.is("of what is read", 7, x.sum(1, 1) ^ 15);
        Chipfield z = used();
        wrong("sum line", OUT, z, line -> z.sum((int) line, 1), -1, 16);
        wrong("sum j", ARGUMENT, z, j -> z.sum(0, (int) j), -1, 0, 5, Integer.MAX_VALUE);
        wrong("sum both", OUT, z, line -> z.sum((int) line, 0), -1, 16);
    }

    private static void mended() {
        due.part("21 mended");
        Chipfield x = new Chipfield();
        due.is("none", 0, x.mended(0));
        x.ray(14, 0, 3);
        due.is("one", 1 << 14, x.mended(0));
        x.ray(0, 0, 8);
        due.is("two", 1 << 14 | 1, x.mended(0));
        x.erase(0, true);
        x.erase(5, true);
        due.is("erased ones that were wrong, too", 1 << 14 | 1, x.mended(0));
        x.ray(5, 0, 1);
        due.is("three", 1 << 14 | 1 << 5 | 1, x.mended(0));
        due.is("nothing is counted", 0, x.bank(0) + x.bank(2) + x.ofChip(14, 2));
        due.is("nor written", 3, x.stored(14, 0));
        spoil(x, 1);
        x.erase(0, false);
        x.erase(5, false);
        due.is("bad", NONE, x.mended(1));
        x.ray(3, 2, 1);
        x.ray(4, 2, 2);
        x.ray(5, 2, 3);
        x.ray(6, 2, 4);
        for (int place = 3; place < 7; place++) {
            x.erase(place, true);
        }
        due.is("four erased ones", 120, x.mended(2));
        Chipfield z = used();
        wrong("mended", OUT, z, line -> z.mended((int) line), -1, 16);
    }

    /** Each error alone, and each pair of places with some. */
    private static void mendedAnywhere() {
        due.part("21 mended anywhere");
        for (int first = 0; first < 15; first++) {
            for (int one = 1; one < 16; one++) {
                Chipfield x = new Chipfield();
                x.write(first, 5555555555L);
                x.ray(first, first, one);
                due.is("one error " + one, 1 << first, x.mended(first));
                for (int second = first + 1; second < 15; second++) {
                    x.ray(second, first, 16 - one);
                    due.is("two errors " + one + " and at " + second, 1 << first | 1 << second, x.mended(first));
                    due.is("its data", 5555555555L, x.data(first));
                    x.ray(second, first, 16 - one);
                }
            }
        }
    }

    private static void data() {
        due.part("22 data");
        Chipfield x = new Chipfield();
        x.write(4, 123456789012L);
        x.ray(4, 4, 1);
        x.ray(14, 4, 1);
        due.is("as it would be mended", 123456789012L, x.data(4));
        due.is("nothing is counted", 0, x.bank(0) + x.bank(2));
        due.is("nor written", 2, x.fetch(4));
        spoil(x, 4);
        due.is("bad", NONE, x.data(4));
        Chipfield z = used();
        wrong("data", OUT, z, line -> z.data((int) line), -1, 16);
    }

    private static void ofChip() {
        due.part("23 ofChip");
        Chipfield x = new Chipfield();
        x.mad(16, 0);
        x.stick(16, 1, 1, 1);
        x.stick(16, 2, 8, 0);
        x.limit(1);
        x.ray(8, 0, 2);
        x.fetch(0);
        x.replace(4);
        int[][] told = {{8, NONE, 1, 1, 0, 0}, {NONE, NONE, 0, 0, 1, 0}, {4, NONE, 0, 0, 0, 0}, {NONE, 0, 0, 0, 0, 2}};
        int[] chips = {8, 4, 15, 16};
        for (int k = 0; k < chips.length; k++) {
            for (int what = 0; what < 6; what++) {
                due.is("chip " + chips[k] + ", " + what, told[k][what], x.ofChip(chips[k], what));
            }
        }
        Chipfield z = used();
        wrong("ofChip chip", OUT, z, chip -> z.ofChip((int) chip, 0), -1, 18);
        wrong("ofChip what", ARGUMENT, z, what -> z.ofChip(0, (int) what), -1, 6);
        wrong("ofChip both", OUT, z, chip -> z.ofChip((int) chip, 6), -1, 18);
    }

    private static void stored() {
        due.part("24 stored");
        Chipfield x = new Chipfield();
        for (int line = 0; line < 16; line++) {
            x.ray(17, line, 15 - line == 0 ? 1 : 15 - line);
        }
        due.is("line 0", 15, x.stored(17, 0));
        due.is("line 15", 1, x.stored(17, 15));
        x.mad(17, 3);
        x.stick(17, 5, 15, 0);
        due.is("not what is read", 10, x.stored(17, 5));
        Chipfield z = used();
        wrong("stored chip", OUT, z, chip -> z.stored((int) chip, 0), -1, 18);
        wrong("stored line", OUT, z, line -> z.stored(0, (int) line), -1, 16);
    }

    private static void ofFrame() {
        due.part("25 ofFrame");
        Chipfield x = new Chipfield();
        x.store(9, 1);
        x.load(0);
        int[][] told = {{9, 1, 1}, {0, 0, 2}, {NONE, 0, 0}, {NONE, 0, 0}};
        for (int frame = 0; frame < 4; frame++) {
            for (int what = 0; what < 3; what++) {
                due.is("frame " + frame + ", " + what, told[frame][what], x.ofFrame(frame, what));
            }
        }
        Chipfield z = used();
        wrong("ofFrame frame", OUT, z, frame -> z.ofFrame((int) frame, 0), -1, 4);
        wrong("ofFrame what", ARGUMENT, z, what -> z.ofFrame(0, (int) what), -1, 3);
        wrong("ofFrame both", OUT, z, frame -> z.ofFrame((int) frame, 3), -1, 4);
    }

    private static void held() {
        due.part("26 held");
        Chipfield x = new Chipfield();
        x.store(9, MOST_DATA);
        x.load(0);
        due.is("stored", MOST_DATA, x.held(0));
        due.is("loaded", 0, x.held(1));
        due.is("empty", NONE, x.held(2) + x.held(3) + 1);
        Chipfield z = used();
        wrong("held", OUT, z, frame -> z.held((int) frame), -1, 4);
    }

    private static void bank() {
        due.part("27 bank");
        Chipfield x = new Chipfield();
        x.ray(5, 0, 1);
        x.fetch(0);
        x.patrol(3);
        spoil(x, 1);
        spoil(x, 2);
        x.fetch(2);
        x.replace(14);
        x.erase(9, true);
        x.erase(9, false);
        x.erase(8, true);
        x.limit(50);
        x.load(5);
        x.load(5);
        x.load(5);
        x.store(6, 1);
        x.call();
        int[] told = {6, 1, 1, 2, 1, 1, 3, 2, 2, 1, 2, 50, 1};
        for (int what = 0; what < told.length; what++) {
            due.is("bank " + what, told[what], x.bank(what));
        }
        wrong("bank", ARGUMENT, x, what -> x.bank((int) what), -1, 13, Integer.MAX_VALUE);
    }

    private static void row() {
        due.part("28 row");
        Chipfield x = new Chipfield();
        x.write(0, 0x6789abcdef0L);
        due.is("signs", "0fedcba9876", x.row(0).substring(4));
        x.erase(4, true);
        x.erase(14, true);
        due.is("erased", "?fedcba987?", x.row(0).substring(4));
        x.mad(5, 2);
        due.is("as read", "?3", x.row(1).substring(4, 6));
        due.is("its length", 15, x.row(1).length());
        x.mad(0, 0);
        for (int line = 0; line < 16; line++) {
            due.is("the sign of " + line, "0123456789abcdef".substring(line, line + 1), x.row(line).substring(0, 1));
        }
        Chipfield z = used();
        for (int line : new int[] {-1, 16}) {
            due.throwsAndKeepsRow("row " + line, OUT, z, () -> z.row(line));
        }
    }

    // ---- 29 to 34

    private static void wouldMend() {
        due.part("29 wouldMend");
        Chipfield x = new Chipfield();
        spoil(x, 0);
        due.is("bad", NONE, x.wouldMend(0, 0));
        due.is("with two of them", 3, x.wouldMend(0, 3));
        due.is("with all of them and one", 3, x.wouldMend(0, 7 | 1 << 14));
        due.is("five are too many", NONE, x.wouldMend(0, 31));
        due.is("all", NONE, x.wouldMend(1, 32767));
        due.is("four sound ones", 0, x.wouldMend(1, 15));
        x.erase(0, true);
        due.is("too", 3, x.wouldMend(0, 2));
        due.is("the same", 3, x.wouldMend(0, 3));
        due.is("five with this", NONE, x.wouldMend(0, 30));
        due.is("four with this", 3, x.wouldMend(0, 15));
        due.is("nothing is changed", 1, x.bank(4));
        Chipfield z = used();
        wrong("wouldMend line", OUT, z, line -> z.wouldMend((int) line, 0), -1, 16);
        wrong("wouldMend erased", ARGUMENT, z, set -> z.wouldMend(0, (int) set), -1, 32768, Integer.MIN_VALUE);
        wrong("wouldMend both", OUT, z, line -> z.wouldMend((int) line, -1), -1, 16);
    }

    private static void spare() {
        due.part("30 spare");
        Chipfield x = new Chipfield();
        due.is("sound", 4, x.spare(0));
        x.ray(7, 0, 1);
        due.is("one error", 2, x.spare(0));
        x.ray(8, 0, 1);
        due.is("two errors", 0, x.spare(0));
        x.write(3, MOST_DATA);
        due.is("sound with data", 4, x.spare(3));
        x.ray(8, 3, 1);
        due.is("one error in data", 2, x.spare(3));
        spoil(x, 1);
        due.is("bad", NONE, x.spare(1));
        x.erase(7, true);
        due.is("one erased", 3, x.spare(2));
        due.is("one erased, one error", 1, x.spare(0));
        x.erase(9, true);
        due.is("two erased", 2, x.spare(2));
        due.is("two erased, one error", 0, x.spare(0));
        x.erase(8, true);
        due.is("three erased", 1, x.spare(0));
        x.erase(0, true);
        due.is("four erased", 0, x.spare(0));
        Chipfield z = used();
        wrong("spare", OUT, z, line -> z.spare((int) line), -1, 16);
    }

    private static void wouldLose() {
        due.part("31 wouldLose");
        Chipfield x = new Chipfield();
        due.is("none", 0, x.wouldLose(14, 15));
        x.ray(0, 3, 1);
        x.ray(1, 3, 2);
        due.is("the line that reads 3 there", 1, x.wouldLose(2, 0));
        due.is("the line that reads 0 there", 0, x.wouldLose(2, 13));
        due.is("it is sane", NONE, x.ofChip(2, 1));
        for (int line = 0; line < 16; line++) {
            Chipfield one = new Chipfield();
            one.ray(0, line, 1);
            one.ray(1, line, 2);
            due.is("line " + line + " reads 3 there", 1, one.wouldLose(2, 3 - line & 15));
            due.is("line " + line + " reads 0 there", 0, one.wouldLose(2, -line & 15));
        }
        x.mad(2, 0);
        due.is("lost", 1, x.bank(10));
        due.is("another key instead", 0, x.wouldLose(2, 13));
        due.is("its key stays", 0, x.ofChip(2, 1));
        x.replace(2);
        x.mad(2, 5);
        due.is("the chip that has the seat", 1, x.wouldLose(2, 0));
        due.is("nothing is counted", 0, x.bank(0) + x.bank(1));
        Chipfield known = new Chipfield();
        known.ray(0, 3, 1);
        known.stick(2, 3, 15, 0);
        known.mad(2, 0);
        known.erase(2, true);
        due.is("one that is ERASED may be wrong", 0, known.wouldLose(2, 0));
        due.is("another with one error beside it is none too many", 0, known.wouldLose(0, 0));
        due.is("a third is", 1, known.wouldLose(1, 2));
        due.is("with the least KEY", 1, known.wouldLose(1, 0));
        due.is("with the greatest", 1, known.wouldLose(1, 15));
        due.is("with that which reads 0 there", 0, known.wouldLose(1, 13));
        known.ray(1, 3, 2);
        known.erase(1, true);
        due.is("three are wrong, but two of them are ERASED", 0, known.wouldLose(2, 0));
        due.is("in other LINES one or two", 0, known.wouldLose(1, 9));
        known.erase(1, false);
        due.is("one of them is ERASED", 1, known.wouldLose(2, 0));
        Chipfield z = used();
        wrong("wouldLose place", OUT, z, place -> z.wouldLose((int) place, 0), -1, 15);
        wrong("wouldLose key", ARGUMENT, z, key -> z.wouldLose(0, (int) key), -1, 16);
        wrong("wouldLose both", OUT, z, place -> z.wouldLose((int) place, 16), -1, 15);
    }

    private static void health() {
        due.part("32 health");
        Chipfield x = new Chipfield();
        due.is("all", (Double) 1.0, (Double) x.health());
        due.is("none is BAD", 0, x.bank(10));
        for (int line = 0; line < 16; line++) {
            spoil(x, line);
            due.is("after " + line, (Double) ((15 - line) / 16.0), (Double) x.health());
        }
        due.is("all are BAD", 16, x.bank(10));
        x.erase(0, true);
        x.erase(1, true);
        due.is("known again", (Double) 1.0, (Double) x.health());
    }

    private static void isSound() {
        due.part("33 isSound");
        Chipfield x = new Chipfield();
        due.is("new", true, (Boolean) x.isSound());
        for (int place = 0; place < 4; place++) {
            x.erase(place, true);
        }
        due.is("four are erased", true, (Boolean) x.isSound());
        spoil(x, 0);
        x.replace(9);
        x.replace(9);
        x.replace(0);
        x.patrol(40);
        for (int line = 0; line < 16; line++) {
            x.store(line, line);
            x.load(15 - line);
            due.is("after uses", true, (Boolean) x.isSound());
        }
    }

    private static void digest() {
        due.part("34 digest");
        for (int state = 0; state < DIGESTED; state++) {
            due.is("state " + state, digestOf(state), digested(state).digest());
        }
        Chipfield x = digested(DIGESTED - 1);
        due.is("the same again", x.digest(), x.digest());
        due.part("34 digest: wraps around as a 64-bit integer");
        BigInteger[] d = {BigInteger.valueOf(3331)};
        eachValue(1, v -> d[0] = d[0].multiply(BigInteger.valueOf(31)).add(BigInteger.valueOf(v)));
        due.is("it is far above", true, d[0].bitLength() > 1000);
        due.is("what is left of it", d[0].longValue(), digested(1).digest());
    }

    private static final int DIGESTED = 4;

    private static Chipfield digested(int state) {
        Chipfield x = new Chipfield();
        if (state > 0) {
            x.write(3, MOST_DATA);
        }
        if (state > 1) {
            spoil(x, 3);
            spoil(x, 4);
            x.store(5, MOST_DATA);
            x.mad(9, 3);
            x.stick(9, 2, 3, 3);
            x.patrol(9);
            x.replace(14);
            x.erase(2, true);
            x.call();
        }
        if (state > 2) {
            for (int line = 0; line < 16; line++) {
                spoil(x, line);
            }
            x.erase(2, false);
        }
        return x;
    }

    private static long digestOf(int state) {
        long[] d = {3331};
        eachValue(state, v -> d[0] = d[0] * 31 + v);
        return d[0];
    }

    /** The values of the checksum, asked of two objects: one alone would be used for too many calls. */
    private static void eachValue(int state, LongConsumer next) {
        Chipfield x = digested(state);
        for (int what = 0; what <= 12; what++) {
            next.accept(x.bank(what));
        }
        for (int chip = 0; chip < 18; chip++) {
            for (int what = 0; what <= 5; what++) {
                next.accept(x.ofChip(chip, what));
            }
        }
        for (int line = 0; line < 16; line++) {
            next.accept(x.mended(line));
            next.accept(x.data(line));
            next.accept(x.spare(line));
        }
        Chipfield y = digested(state);
        for (int chip = 0; chip < 18; chip++) {
            for (int line = 0; line < 16; line++) {
                next.accept(y.stored(chip, line));
            }
        }
        for (int frame = 0; frame < 4; frame++) {
            for (int what = 0; what <= 2; what++) {
                next.accept(y.ofFrame(frame, what));
            }
            next.accept(y.held(frame));
        }
        next.accept((long) (64 * y.health()));
        next.accept(y.isSound() ? 1 : 0);
    }
}
