/**
 * The sentences of the document's "Terms" that name a boundary case, one after the other: each has a
 * part of its own here, told in the document's words.
 */
public final class TermsTest {

    private static final int NONE = -1;
    private static final long MOST_DATA = (1L << 44) - 1;
    private static final long SOME_DATA = 0x2c7e5f01a9bL;
    private static final int[] POWERS = {1, 2, 4, 8, 3, 6, 12, 11, 5, 10, 7, 14, 15, 13, 9};
    private static final Due due = new Due();
    private static long seed = 4711;

    public static void main(String[] args) {
        calls();
        field();
        words();
        mending();
        chips();
        reading();
        erasingTheBlamed();
        replacing();
        patrol();
        cache();
        fooled();
        warden();
        due.end();
    }

    private static int below(int bound) {
        seed = seed * 6364136223846793005L + 1442695040888963407L;
        return (int) ((seed >>> 33) % bound);
    }

    /** Three errors that are BAD in any WORD of the CODE without ERASED places. */
    private static void spoil(Chipfield x, int line) {
        x.ray(0, line, 1);
        x.ray(1, line, 2);
        x.ray(2, line, 3);
    }

    /** A CHIP that is wrong in LINE 2 at each FETCH, so that it is BLAMED as often as wanted. */
    private static Chipfield blamed(int times, int limit) {
        Chipfield x = new Chipfield();
        x.limit(limit);
        x.mad(3, 5);
        for (int k = 0; k < times; k++) {
            x.fetch(2);
        }
        return x;
    }

    // ---- what it is

    private static void calls() {
        due.part("An object is used for at most 512 calls");
        Chipfield x = new Chipfield();
        for (int k = 1; k <= 512; k++) {
            due.is("call", k, x.call());
        }

        Chipfield all = new Chipfield();
        for (int place = 0; place < 4; place++) {
            all.mad(place, place);
            all.erase(place, true);
        }
        for (int k = 0; k < 500; k++) {
            all.patrol(40);
        }
        due.is("FETCHES ever", 20000, all.bank(0));
        due.is("places MENDED ever: 60 in 16 LINES", 75000, all.bank(2));
        due.is("still sound", true, (Boolean) all.isSound());

        Chipfield bad = new Chipfield();
        for (int line = 0; line < 16; line++) {
            spoil(bad, line);
        }
        for (int k = 0; k < 460; k++) {
            due.is("every STEP is BAD", 40, bad.patrol(40));
        }
        due.is("LOST ever", 18400, bad.bank(1));
        due.is("LOST and FETCHES", true, (Boolean) bad.isSound());

        Chipfield cached = new Chipfield();
        for (int k = 1; k <= 505; k++) {
            due.is("FRAME", k % 2, cached.store(10 + (k + 1) % 2, k) == 0 ? 1 : 0);
        }
        due.is("HITS", 503, cached.bank(7));
        due.is("MISSES", 2, cached.bank(8));
        due.is("greatest TIME", 505, cached.ofFrame(0, 2));
        due.is("TIME before", 504, cached.ofFrame(1, 2));
    }

    // ---- 1. The field

    private static int product(int one, int two) {
        int all = 0;
        for (int bit = 0; bit < 4; bit++) {
            all ^= (two >> bit & 1) * (one << bit);
        }
        for (int bit = 6; bit >= 4; bit--) {
            all ^= (all >> bit & 1) * (19 << bit - 4);
        }
        return all;
    }

    private static void field() {
        due.part("ELEMENTS are 0 to 15; their PRODUCT is the rest by x^4 + x + 1");
        Chipfield x = new Chipfield();
        for (int one = 0; one < 16; one++) {
            for (int two = 0; two < 16; two++) {
                due.is(one + " * " + two, product(one, two), x.times(one, two));
            }
        }
        due.part("so 2 * 8 is 3, 3 * 7 is 9");
        due.is("2 * 8", 3, x.times(2, 8));
        due.is("3 * 7", 9, x.times(3, 7));
        due.part("POWER 0 is 1, POWER 4 is 3; it comes again with 15 more");
        due.is("POWER 0", 1, x.power(0));
        due.is("POWER 4", 3, x.power(4));
        due.is("POWER 14", 9, x.power(14));
        due.is("POWER 15", 1, x.power(15));
        due.is("POWER 16", 2, x.power(16));
        due.is("POWER 990", 1, x.power(990));
        due.is("POWER 999", 10, x.power(999));
    }

    // ---- 2. Words of the code

    private static void words() {
        due.part("SUM j: the sum over the places i of its SYMBOL, multiplied with POWER (i * j)");
        for (int j = 1; j <= 4; j++) {
            Chipfield x = new Chipfield();
            int all = 0;
            for (int place = 0; place < 15; place++) {
                int symbol = 1 + (place * 7 + j) % 15;
                x.ray(place, 9, symbol);
                due.is("SUM " + j + " up to place " + place, all ^= product(symbol, POWERS[place * j % 15]), x.sum(9, j));
            }
        }
        due.part("it is of the CODE, if all four SUMS are 0");
        for (int j = 1; j <= 4; j++) {
            oneSumAlone(j);
        }
        due.part("DATA: the place 4 as 1, the place 5 as 16, and so on (0 to 2^44 - 1)");
        for (int place = 4; place < 15; place++) {
            long data = 15L << 4 * (place - 4);
            Chipfield x = new Chipfield();
            x.write(0, data);
            for (int other = 4; other < 15; other++) {
                due.is(data + " at place " + other, other == place ? 15 : 0, x.seen(0, other));
                due.is("symbol", other == place ? 15 : 0, x.symbol(data, other));
            }
            due.is("DATA", data, x.data(0));
        }
        due.part("there is just one WORD of the CODE for each DATA");
        for (long data : new long[] {0, 1, 15, 16, SOME_DATA, MOST_DATA - 1, MOST_DATA, 1L << 43}) {
            Chipfield x = new Chipfield();
            x.write(8, data);
            for (int j = 1; j <= 4; j++) {
                due.is("SUM " + j + " for " + data, 0, x.sum(8, j));
            }
            for (int place = 0; place < 15; place++) {
                due.is("symbol " + place + " of " + data, x.seen(8, place), x.symbol(data, place));
            }
            due.is("MENDED", 0, x.mended(8));
            due.is("DATA", data, x.data(8));
        }
    }

    /** A WORD in which this SUM alone is not 0 is not of the CODE. */
    private static void oneSumAlone(int j) {
        for (int pick = 1; pick < 1 << 16; pick++) {
            int not0 = 0;
            for (int k = 1; k <= 4; k++) {
                int sum = 0;
                for (int place = 0; place < 4; place++) {
                    sum ^= product(pick >> 4 * place & 15, POWERS[place * k % 15]);
                }
                not0 |= sum == 0 ? 0 : 1 << k;
            }
            if (not0 == 1 << j) {
                Chipfield x = new Chipfield();
                int wrong = 0;
                for (int place = 0; place < 4; place++) {
                    int mask = pick >> 4 * place & 15;
                    if (mask != 0) {
                        x.ray(place, 0, mask);
                        wrong++;
                    }
                }
                due.is("not of the CODE with SUM " + j + ", " + pick, false, x.mended(0) == 0);
                due.is("MENDED with all four ERASED", wrong, x.wouldMend(0, 15));
            }
        }
    }

    private static void mending() {
        due.part("with 2 * t + e no more than 4: there is one");
        for (int erased = 0; erased < 1 << 15; erased++) {
            if (Integer.bitCount(erased) <= 4) {
                mendBeside(erased);
            }
        }
        due.part("2 * t + e just 4, and just above it");
        justFour(0, 2);
        justFour(1, 1);
        justFour(2, 1);
        justFour(3, 0);
        due.part("e is 4: one error more always leads to another WORD");
        Chipfield four = new Chipfield();
        four.write(6, SOME_DATA);
        four.ray(5, 6, 1);
        due.is("not BAD", false, four.wouldMend(6, 15) == NONE);
        for (int place = 0; place < 4; place++) {
            four.erase(place, true);
        }
        due.is("not the DATA", SOME_DATA ^ 1L << 4, four.data(6));
        due.part("(whatever is in E)");
        Chipfield x = new Chipfield();
        x.write(0, SOME_DATA);
        due.is("nothing wrong in it", 0, x.wouldMend(0, 1 | 16 | 64 | 1 << 14));
        x.ray(6, 0, 9);
        due.is("one is wrong in it", 1, x.wouldMend(0, 1 | 16 | 64 | 1 << 14));
        x.ray(0, 0, 15);
        x.ray(4, 0, 1);
        x.ray(14, 0, 2);
        due.is("all are wrong in it", 4, x.wouldMend(0, 1 | 16 | 64 | 1 << 14));
        due.part("With e above 4 it is BAD, too");
        for (int count = 0; count <= 15; count++) {
            due.is(count + " from the first", count > 4 ? NONE : 0, x.wouldMend(1, (1 << count) - 1));
            due.is(count + " from the last", count > 4 ? NONE : 0, x.wouldMend(1, 32767 & -1 << 15 - count));
        }
        due.is("five with all that is wrong", NONE, x.wouldMend(0, 1 | 16 | 64 | 1 << 14 | 2));
    }

    /** With e ERASED places that are wrong t errors are known, and one more is BAD. */
    private static void justFour(int e, int t) {
        Chipfield x = new Chipfield();
        x.write(6, SOME_DATA);
        int erased = 0;
        for (int k = 0; k < e; k++) {
            erased |= 1 << 14 - k;
            x.ray(14 - k, 6, 3 + k);
        }
        for (int k = 0; k < t; k++) {
            x.ray(k, 6, 1 + 2 * k);
        }
        due.is("e is " + e + ", t is " + t, e + t, x.wouldMend(6, erased));
        x.ray(t, 6, 1 + 2 * t);
        due.is("e is " + e + ", t is " + (t + 1), NONE, x.wouldMend(6, erased));
    }

    /** LINE t has t errors at places that are not ERASED, and whatever at those that are. */
    private static void mendBeside(int erased) {
        int e = Integer.bitCount(erased);
        Chipfield x = new Chipfield();
        PlainModel model = new PlainModel();
        for (int place = 0; place < 15; place++) {
            if ((erased >> place & 1) != 0) {
                x.erase(place, true);
                model.erase(place, true);
            }
        }
        for (int t = 0; t <= 3; t++) {
            x.write(t, SOME_DATA);
            model.write(t, SOME_DATA);
            int wrong = strike(x, model, t, erased);
            String told = "E is " + erased + ", t is " + t;
            if (2 * t + e <= 4) {
                due.is(told + ", MENDED", wrong, x.mended(t));
                due.is(told + ", DATA", SOME_DATA, x.data(t));
            } else {
                due.is(told + ", MENDED or not", model.mended(t), x.mended(t));
                due.is(told + ", DATA or not", model.data(t), x.data(t));
            }
        }
    }

    private static int strike(Chipfield x, PlainModel model, int t, int erased) {
        int wrong = 0;
        for (int place = 0; place < 15; place++) {
            int mask = below(16);
            if ((erased >> place & 1) != 0 && mask != 0) {
                x.ray(place, t, mask);
                model.ray(place, t, mask);
                wrong |= 1 << place;
            }
        }
        for (int k = 0; k < t; k++) {
            int place = below(15);
            while (((erased | wrong) >> place & 1) != 0) {
                place = (place + 1) % 15;
            }
            int mask = 1 + below(15);
            x.ray(place, t, mask);
            model.ray(place, t, mask);
            wrong |= 1 << place;
        }
        return wrong;
    }

    // ---- 3. Chips and cells

    private static void chips() {
        due.part("SEAT i: i at first; 15, 16 and 17 are SPARES at first");
        Chipfield x = new Chipfield();
        for (int chip = 0; chip < 18; chip++) {
            due.is("the place of " + chip, chip < 15 ? chip : NONE, x.ofChip(chip, 0));
        }
        for (int place = 0; place < 15; place++) {
            x.ray(place, 15, place + 1);
            due.is("place " + place, place + 1, x.seen(15, place));
        }
        due.part("A CHIP is SANE at first");
        for (int chip = 0; chip < 18; chip++) {
            due.is("KEY of " + chip, NONE, x.ofChip(chip, 1));
        }
        stuckCells();
        madChips();
        raysAndWrites();
        due.part("An ERASED place is one whose CHIP is so marked");
        Chipfield y = new Chipfield();
        y.erase(3, true);
        due.is("its CHIP", 1, y.ofChip(3, 3));
        y.replace(3);
        due.is("another CHIP is there", 0, y.bank(4));
        due.is("it is read", "000000000000000", y.row(0));
    }

    private static void stuckCells() {
        due.part("of what is read there the bits of MASK are those of VALUE (whatever is stored)");
        for (int mask = 0; mask < 16; mask++) {
            Chipfield x = new Chipfield();
            x.ray(7, 3, 10);
            for (int value = 0; value < 16; value++) {
                x.stick(7, 3, mask, value);
                due.is("MASK " + mask + ", VALUE " + value, 10 & ~mask | value & mask, x.seen(3, 7));
            }
            due.is("stored", 10, x.stored(7, 3));
            due.is("other LINES", 0, x.seen(2, 7) + x.seen(4, 7));
        }
        due.part("told anew, the new one stands alone");
        Chipfield x = new Chipfield();
        x.ray(0, 0, 6);
        x.stick(0, 0, 15, 15);
        due.is("one cell", 1, x.stick(0, 0, 4, 8));
        due.is("bit 2 is that of the new one, all others are stored", 2, x.seen(0, 0));
        due.part("MASK 0: it is not STUCK any more");
        due.is("none", 0, x.stick(0, 0, 0, 15));
        due.is("read", 6, x.seen(0, 0));
        due.is("one", 1, x.stick(0, 15, 8, 8));
        due.is("none of another cell", 1, x.stick(0, 14, 0, 8));
        for (int line = 0; line < 16; line++) {
            x.stick(14, line, 15, line);
        }
        due.is("all cells of a CHIP", 16, x.stick(14, 0, 1, 1));
        due.is("all but one", 15, x.stick(14, 9, 0, 0));
        due.is("not of another CHIP", 1, x.ofChip(0, 5));
    }

    private static void madChips() {
        due.part("of each LINE one reads KEY + LINE, modulo 16, instead of what is stored");
        for (int key = 0; key < 16; key++) {
            Chipfield x = new Chipfield();
            x.mad(14, key);
            for (int line = 0; line < 16; line++) {
                x.ray(14, line, 9);
                due.is("KEY " + key + ", LINE " + line, (key + line) % 16, x.seen(line, 14));
            }
        }
        due.part("(STUCK cells do not matter then)");
        Chipfield x = new Chipfield();
        x.stick(4, 1, 15, 9);
        x.mad(4, 15);
        due.is("MAD", 0, x.seen(1, 4));
        x.stick(4, 2, 15, 9);
        due.is("STUCK as it is MAD", 1, x.seen(2, 4));
        due.is("the cells are STUCK nonetheless", 2, x.ofChip(4, 5));
        x.mad(4, NONE);
        due.is("SANE again", 99, x.seen(1, 4) * 10 + x.seen(2, 4));
    }

    private static void raysAndWrites() {
        due.part("A RAY changes what is stored: it is XOR a MASK then");
        Chipfield x = new Chipfield();
        due.is("least", 1, x.ray(0, 0, 1));
        due.is("greatest", 14, x.ray(0, 0, 15));
        due.is("the same again", 1, x.ray(0, 0, 15));
        due.is("back to 0", 0, x.ray(0, 0, 1));
        due.is("last CHIP, last LINE", 8, x.ray(17, 15, 8));
        due.is("nothing else", 0, x.stored(17, 14) + x.stored(16, 15) + x.stored(0, 0));
        due.part("To WRITE changes what is stored, on whatever CHIP");
        x.mad(4, 3);
        x.stick(5, 2, 15, 1);
        x.erase(6, true);
        due.is("read as others: neither the MAD nor the STUCK one", 13, x.write(2, MOST_DATA));
        due.is("stored", 15, x.stored(4, 2) & x.stored(5, 2) & x.stored(6, 2) & x.stored(0, 2) & x.stored(14, 2));
        x.replace(7);
        x.write(2, 0);
        due.is("the CHIP that is OUT keeps it", 15, x.stored(7, 2));
        due.is("its follower does not", 0, x.stored(15, 2));
        due.is("no SPARE has it", 0, x.stored(16, 2) + x.stored(17, 2));
    }

    // ---- 4. Reading

    private static void reading() {
        due.part("each place that is MENDED and not ERASED is counted for its CHIP");
        Chipfield x = new Chipfield();
        x.erase(0, true);
        x.erase(14, true);
        x.ray(0, 5, 1);
        x.ray(9, 5, 2);
        due.is("MENDED", 2, x.fetch(5));
        for (int chip = 0; chip < 18; chip++) {
            due.is("BLAME of " + chip, chip == 9 ? 1 : 0, x.ofChip(chip, 2));
        }
        due.part("if anything was MENDED, the WORD is WRITTEN back (all places)");
        Chipfield all = new Chipfield();
        all.stick(7, 2, 15, 0);
        all.mad(6, 14);
        all.ray(7, 2, 6);
        all.ray(6, 2, 5);
        due.is("nothing was", 0, all.fetch(2));
        due.is("so what is stored stays", 65, all.stored(7, 2) * 10 + all.stored(6, 2));
        all.ray(8, 2, 1);
        due.is("something was", 1, all.fetch(2));
        due.is("places that are read right, too", 0, all.stored(6, 2) + all.stored(7, 2) + all.stored(8, 2));
        due.is("of them none is BLAMED", 1, all.ofChip(6, 2) + all.ofChip(7, 2) + all.ofChip(8, 2));
        Chipfield erased = new Chipfield();
        erased.erase(3, true);
        erased.ray(3, 2, 7);
        due.is("an ERASED one alone was", 1, erased.fetch(2));
        due.is("it is WRITTEN, too", 0, erased.stored(3, 2));
        due.is("and not BLAMED", 0, erased.ofChip(3, 2));
        due.is("but counted", 1, erased.bank(2));
        Chipfield four = new Chipfield();
        four.write(15, SOME_DATA);
        for (int place = 0; place < 15; place += 4) {
            four.ray(place, 15, 15 - place);
            four.erase(place, true);
        }
        due.is("four ERASED ones were", 4, four.fetch(15));
        due.is("they are counted", 4, four.bank(2));
        due.is("and WRITTEN", SOME_DATA, four.data(15));
        due.is("none is MENDED any more", 0, four.fetch(15));
        due.is("no one is BLAMED", 0, four.ofChip(0, 2) + four.ofChip(4, 2) + four.ofChip(8, 2) + four.ofChip(12, 2));
        due.part("If it is BAD, that is counted (LOST), and nothing that is stored is changed");
        Chipfield bad = new Chipfield();
        bad.write(4, SOME_DATA);
        bad.stick(12, 4, 15, bad.seen(4, 12));
        bad.ray(12, 4, 5);
        spoil(bad, 4);
        String before = bad.row(4);
        int beneath = bad.stored(12, 4);
        due.is("BAD", NONE, bad.fetch(4));
        due.is("LOST, FETCHES, MENDED", 110, bad.bank(1) * 100 + bad.bank(0) * 10 + bad.bank(2));
        due.is("read", before, bad.row(4));
        due.is("stored", beneath, bad.stored(12, 4));
        for (int chip = 0; chip < 18; chip++) {
            due.is("BLAME of " + chip, 0, bad.ofChip(chip, 2));
        }
    }

    private static void erasingTheBlamed() {
        due.part("BLAMED for the LIMIT (4 at first) times or more");
        due.is("three times", 0, blamed(3, 4).ofChip(3, 3));
        due.is("four times", 1, blamed(4, 4).ofChip(3, 3));
        due.is("it is not BLAMED any more", 4, blamed(9, 4).ofChip(3, 2));
        Chipfield first = new Chipfield();
        for (int k = 1; k <= 4; k++) {
            first.ray(14, k, 1);
            first.fetch(k);
            due.is("LIMIT at first, " + k, k / 4, first.ofChip(14, 3));
        }
        due.part("LIMIT 1 and 99");
        due.is("once of 1", 1, blamed(1, 1).ofChip(3, 3));
        due.is("not at all", 0, blamed(0, 1).ofChip(3, 3));
        due.is("98 of 99", 98, blamed(98, 99).ofChip(3, 2));
        due.is("98 of 99, ERASED", 0, blamed(98, 99).ofChip(3, 3));
        due.is("99 of 99, ERASED", 1, blamed(99, 99).ofChip(3, 3));
        due.part("or more");
        Chipfield more = blamed(5, 99);
        more.limit(2);
        due.is("not before a FETCH", 0, more.ofChip(3, 3));
        more.data(2);
        more.mended(2);
        more.replace(9);
        more.write(2, 5);
        more.store(1, 3);
        more.flush();
        due.is("as nothing but a FETCH ends", 0, more.ofChip(3, 3));
        more.fetch(11);
        due.is("as any FETCH ends, 5 of 2", 1, more.ofChip(3, 3));
        due.part("(also one that is BAD)");
        Chipfield bad = blamed(1, 99);
        bad.mad(3, NONE);
        bad.limit(1);
        spoil(bad, 9);
        due.is("BAD", NONE, bad.fetch(9));
        due.is("ERASED", 1, bad.ofChip(3, 3));
        due.part("as any FETCH ends: by a STEP of the PATROL, by a MISS");
        Chipfield step = blamed(1, 99);
        step.limit(1);
        step.patrol(1);
        due.is("by a STEP", 1, step.ofChip(3, 3));
        Chipfield miss = blamed(1, 99);
        miss.store(2, 0);
        miss.limit(1);
        miss.load(2);
        due.is("not by a HIT", 0, miss.ofChip(3, 3));
        miss.load(8);
        due.is("by a MISS", 1, miss.ofChip(3, 3));
        due.part("since it took that SEAT");
        Chipfield since = blamed(3, 4);
        since.replace(3);
        since.mad(15, 5);
        for (int k = 1; k <= 4; k++) {
            since.fetch(2);
            due.is("BLAME of the new one", k, since.ofChip(15, 2));
            due.is("ERASED", k / 4, since.ofChip(15, 3));
        }
        due.is("the old one has its own", 3, since.ofChip(3, 2));
        due.part("each CHIP on a SEAT");
        Chipfield out = blamed(3, 4);
        out.replace(3);
        out.limit(1);
        out.fetch(0);
        due.is("not one that is OUT", 0, out.ofChip(3, 3) + out.bank(4));
        fewerThanFour();
    }

    /** CHIPS that were BLAMED once each, with a LIMIT that is above that as yet. */
    private static Chipfield blamedOnce(int... places) {
        Chipfield x = new Chipfield();
        for (int place : places) {
            x.ray(place, place, 1);
            x.fetch(place);
        }
        return x;
    }

    private static int erasedChips(Chipfield x) {
        int set = 0;
        for (int chip = 0; chip < 18; chip++) {
            set |= x.ofChip(chip, 3) << chip;
        }
        return set;
    }

    private static void fewerThanFour() {
        due.part("place by place, as long as fewer than 4 places are");
        Chipfield x = blamedOnce(14, 12, 9, 5, 3, 1);
        x.limit(1);
        x.fetch(0);
        due.is("the first four of six", 1 << 1 | 1 << 3 | 1 << 5 | 1 << 9, erasedChips(x));
        x.fetch(0);
        due.is("no more later", 4, x.bank(4));
        x.erase(3, false);
        due.is("three", 3, x.bank(4));
        x.fetch(0);
        due.is("the first again", 1 << 1 | 1 << 3 | 1 << 5 | 1 << 9, erasedChips(x));
        x.replace(5);
        x.fetch(0);
        due.is("one OUT, so there is room for one", 1 << 1 | 1 << 3 | 1 << 5 | 1 << 9 | 1 << 12, erasedChips(x));
        due.is("four places", 4, x.bank(4));

        Chipfield three = blamedOnce(8, 2);
        three.erase(12, true);
        three.erase(13, true);
        three.erase(14, true);
        three.limit(1);
        three.fetch(0);
        due.is("with 3 ERASED, the first alone", 1 << 2 | 7 << 12, erasedChips(three));
        Chipfield four = blamedOnce(0);
        for (int place = 11; place < 15; place++) {
            four.erase(place, true);
        }
        four.limit(1);
        four.fetch(0);
        due.is("with 4 ERASED, none", 15 << 11, erasedChips(four));
        Chipfield seats = new Chipfield();
        seats.replace(0);
        seats.ray(15, 0, 1);
        seats.fetch(0);
        for (int place = 1; place < 5; place++) {
            seats.ray(place, place, 1);
            seats.fetch(place);
        }
        seats.limit(1);
        seats.fetch(9);
        due.is("by places, not by CHIPS", 1 << 15 | 1 << 1 | 1 << 2 | 1 << 3, erasedChips(seats));
        due.part("a CHIP that is ERASED already takes no room");
        Chipfield again = blamedOnce(0, 1, 2, 3);
        again.erase(0, true);
        again.erase(1, true);
        again.limit(1);
        again.fetch(9);
        due.is("all four", 15, erasedChips(again));
    }

    // ---- 4. Spares

    private static void replacing() {
        due.part("the SPARE with the smallest number that is left takes its SEAT");
        Chipfield x = new Chipfield();
        due.is("first", 15, x.replace(14));
        due.is("second, for a SPARE that was", 16, x.replace(14));
        due.is("third", 17, x.replace(0));
        due.is("left", 0, x.bank(3));
        due.is("places", 1400 + NONE, x.ofChip(16, 0) * 100 + x.ofChip(15, 0) + x.ofChip(17, 0));
        due.is("OUT", 111, x.ofChip(14, 4) * 100 + x.ofChip(15, 4) * 10 + x.ofChip(0, 4));
        due.is("not OUT", 0, x.ofChip(16, 4) + x.ofChip(17, 4));
        thisPlaceToo();
        lineByLine();
        oldAndNew();
    }

    private static void thisPlaceToo() {
        due.part("(with this place as ERASED, too, if no more than 4 are so then)");
        for (int others = 0; others <= 4; others++) {
            Chipfield x = new Chipfield();
            x.write(3, SOME_DATA);
            x.mad(0, 1);
            for (int place = 1; place <= others; place++) {
                x.erase(place, true);
            }
            int errors = others < 4 ? (3 - others) / 2 : 0;
            if (errors == 1) {
                x.ray(9, 3, 6);
            }
            boolean isMended = others < 4;
            x.replace(0);
            due.is(others + " others, LINE 3", isMended ? x.symbol(SOME_DATA, 0) : 4, x.stored(15, 3));
            due.is(others + " others, LINE 15", 0, x.stored(15, 15));
            due.is(others + " others, LINE 14", isMended ? 0 : 15, x.stored(15, 14));
            due.is("ERASED then", others, x.bank(4));
        }
        Chipfield one = new Chipfield();
        one.write(3, SOME_DATA);
        one.mad(0, 1);
        for (int place = 0; place < 4; place++) {
            one.erase(place, true);
        }
        one.replace(0);
        due.is("one of the 4", one.symbol(SOME_DATA, 0), one.stored(15, 3));
        due.is("three are left", 3, one.bank(4));
        for (int others = 1; others <= 4; others++) {
            Chipfield wrong = new Chipfield();
            for (int place = 0; place <= others; place++) {
                wrong.mad(place, 6 + place);
                wrong.erase(place, place > 0);
            }
            wrong.replace(0);
            due.is(others + " others that are wrong, too, LINE 9", others < 4 ? 0 : 15, wrong.stored(15, 9));
            due.is(others + " others that are wrong, too, LINE 0", others < 4 ? 0 : 6, wrong.stored(15, 0));
        }
        Chipfield two = new Chipfield();
        two.ray(0, 0, 1);
        two.ray(4, 0, 1);
        two.ray(5, 0, 2);
        two.replace(0);
        due.is("as ERASED it leaves one error to know, not two: BAD", 1, two.stored(15, 0));
        Chipfield three = new Chipfield();
        three.mad(0, 9);
        three.ray(4, 0, 1);
        three.replace(0);
        due.is("as ERASED it leaves one error to know", 0, three.stored(15, 0));
    }

    private static void lineByLine() {
        due.part("LINE by LINE .. the SYMBOL of that place is WRITTEN on the new CHIP alone");
        Chipfield x = new Chipfield();
        for (int line = 0; line < 16; line++) {
            x.write(line, SOME_DATA + line);
            x.ray(15, line, 1 + line % 15);
            x.ray(8, line, 3);
            x.ray(12, line, 5);
        }
        x.replace(8);
        for (int line = 0; line < 16; line++) {
            due.is("new, LINE " + line, x.symbol(SOME_DATA + line, 8), x.stored(15, line));
            due.is("old, LINE " + line, x.symbol(SOME_DATA + line, 8) ^ 3, x.stored(8, line));
            due.is("another, LINE " + line, x.symbol(SOME_DATA + line, 12) ^ 5, x.stored(12, line));
            due.is("one error is left", 1 << 12, x.mended(line));
        }
        due.part("of a LINE that is BAD what is read there");
        Chipfield bad = new Chipfield();
        bad.mad(0, 14);
        bad.ray(0, 3, 7);
        spoil(bad, 3);
        bad.ray(3, 3, 9);
        bad.stick(5, 4, 15, 12);
        spoil(bad, 4);
        bad.replace(0);
        due.is("of a MAD CHIP", 1, bad.stored(15, 3));
        due.is("not in the others", 0, bad.stored(15, 2) + bad.stored(15, 5) + bad.stored(15, 0));
        bad.replace(5);
        due.is("of a STUCK cell", 12, bad.stored(16, 4));
        due.part("(Nothing is counted or BLAMED for that.)");
        int[] bank = {0, 0, 0, 1, 0, 2, 0, 0, 0, 0, bad.bank(10), 4, 0};
        for (int what = 0; what < 13; what++) {
            due.is("bank " + what, bank[what], bad.bank(what));
        }
        for (int chip = 0; chip < 18; chip++) {
            due.is("BLAME of " + chip, 0, bad.ofChip(chip, 2));
        }
    }

    private static void oldAndNew() {
        due.part("The old CHIP is OUT, for good (its mark, KEY and BLAME stay)");
        Chipfield x = blamed(4, 4);
        x.stick(3, 7, 1, 1);
        x.replace(3);
        int[] old = {NONE, 5, 4, 1, 1, 1};
        int[] taken = {3, NONE, 0, 0, 0, 0};
        for (int what = 0; what < 6; what++) {
            due.is("old, " + what, old[what], x.ofChip(3, what));
            due.is("new, " + what, taken[what], x.ofChip(15, what));
        }
        due.is("no place is ERASED", 0, x.bank(4));
        due.is("KEY before", 5, x.mad(3, NONE));
        x.ray(3, 0, 15);
        x.stick(3, 0, 15, 15);
        due.is("what happens to it is not read", 0, x.seen(0, 3));
        due.is("nor are new marks its own", 1, x.erase(3, true) * x.ofChip(15, 3));
        x.erase(3, false);
        due.is("its mark stays", 1, x.ofChip(3, 3));
        x.replace(3);
        x.replace(4);
        due.is("for good", 1, x.ofChip(3, 4));
        due.is("three are", 3, x.bank(5));
        due.part("the new one is not ERASED, and its BLAME begins at 0");
        Chipfield spare = new Chipfield();
        spare.mad(15, 7);
        spare.stick(15, 2, 4, 4);
        spare.erase(6, true);
        spare.replace(6);
        int[] told = {6, 7, 0, 0, 0, 1};
        for (int what = 0; what < 6; what++) {
            due.is("a SPARE with its KEY and its STUCK cell, " + what, told[what], spare.ofChip(15, what));
        }
        due.is("read as MAD", 9, spare.seen(2, 6));
    }

    private static void patrol() {
        due.part("The PATROL is at a LINE (0 at first) .. (behind 15 to 0)");
        int[] steps = {1, 14, 15, 16, 17, 31, 32, 33, 40};
        for (int count : steps) {
            Chipfield x = new Chipfield();
            spoil(x, 15);
            int rounds = count / 16;
            due.is(count + " STEPS", rounds, x.patrol(count));
            due.is("at", count % 16, x.bank(6));
            due.is("FETCHES", count, x.bank(0));
        }
        Chipfield x = new Chipfield();
        spoil(x, 15);
        spoil(x, 0);
        x.patrol(15);
        due.is("the last LINE", NONE, x.mended(x.bank(6)));
        due.is("15", 1, x.patrol(1));
        due.is("0", 1, x.patrol(1));
        due.is("1", 0, x.patrol(1));
        due.is("at", 2, x.bank(6));
        x.fetch(9);
        x.load(10);
        due.is("no other FETCH moves it", 2, x.bank(6));
        due.part("a STEP of it FETCHES that LINE");
        Chipfield y = new Chipfield();
        for (int line = 0; line < 16; line++) {
            y.ray(line % 15, line, 1);
        }
        y.patrol(15);
        due.is("the last one is wrong still", 1, y.mended(15));
        for (int chip = 0; chip < 15; chip++) {
            due.is("BLAME of " + chip, 1, y.ofChip(chip, 2));
        }
        y.patrol(1);
        due.is("BLAME of 0", 2, y.ofChip(0, 2));
        due.is("MENDED ever", 16, y.bank(2));
    }

    // ---- 5. The cache

    private static void cache() {
        due.part("The CACHE has 4 FRAMES, each empty (at first)");
        Chipfield x = new Chipfield();
        for (int frame = 0; frame < 4; frame++) {
            due.is("LINE of " + frame, NONE, x.ofFrame(frame, 0));
            due.is("DIRTY, TIME of " + frame, 0, x.ofFrame(frame, 1) + x.ofFrame(frame, 2));
            due.is("DATA of " + frame, NONE, x.held(frame));
        }
        due.is("none to FLUSH", 0, x.flush());
        hits();
        misses();
        victims();
        stores();
        flushes();
    }

    private static void frameIs(Chipfield x, int frame, int line, int dirty, int time, long data) {
        due.is("LINE of FRAME " + frame, line, x.ofFrame(frame, 0));
        due.is("DIRTY of FRAME " + frame, dirty, x.ofFrame(frame, 1));
        due.is("TIME of FRAME " + frame, time, x.ofFrame(frame, 2));
        due.is("DATA of FRAME " + frame, data, x.held(frame));
    }

    private static void hits() {
        due.part("if a FRAME has it, that is a HIT (used)");
        Chipfield x = new Chipfield();
        x.write(0, 9);
        due.is("LINE 0 is no empty FRAME", 9, x.load(0));
        frameIs(x, 0, 0, 0, 1, 9);
        spoil(x, 0);
        due.is("though it is BAD by now", 9, x.load(0));
        frameIs(x, 0, 0, 0, 2, 9);
        due.is("HITS, MISSES, FETCHES, LOST", 1110, x.bank(7) * 1000 + x.bank(8) * 100 + x.bank(0) * 10 + x.bank(1));
        x.store(0, 8);
        due.is("a DIRTY one", 8, x.load(0));
        frameIs(x, 0, 0, 1, 4, 8);
        due.is("HITS", 3, x.bank(7));
        due.is("LINE 0 is not WRITTEN", NONE, x.data(0));
    }

    private static void misses() {
        due.part("if it is BAD, nothing more is done");
        Chipfield x = new Chipfield();
        spoil(x, 4);
        due.is("an empty CACHE", NONE, x.load(4));
        frameIs(x, 0, NONE, 0, 0, NONE);
        due.is("MISSES, FETCHES, LOST, HITS", 1110, x.bank(8) * 1000 + x.bank(0) * 100 + x.bank(1) * 10 + x.bank(7));
        due.is("the next use is the first", 0, x.store(5, 50));
        frameIs(x, 0, 5, 1, 1, 50);
        for (int line = 6; line < 9; line++) {
            x.store(line, 10L * line);
        }
        due.is("a full one", NONE, x.load(4));
        for (int frame = 0; frame < 4; frame++) {
            frameIs(x, frame, 5 + frame, 1, 1 + frame, 50 + 10 * frame);
            due.is("not WRITTEN", 0, x.data(5 + frame));
        }
        due.part("it goes into a FRAME (CLEAN, used): the first empty one");
        Chipfield y = new Chipfield();
        y.write(3, 33);
        y.ray(9, 3, 4);
        int[] lines = {15, 9, 3, 0};
        for (int frame = 0; frame < 4; frame++) {
            due.is("MENDED DATA", lines[frame] == 3 ? 33 : 0, y.load(lines[frame]));
            due.is("empty ones", 3 - frame, emptyFrames(y));
        }
        frameIs(y, 0, 15, 0, 1, 0);
        frameIs(y, 1, 9, 0, 2, 0);
        frameIs(y, 2, 3, 0, 3, 33);
        frameIs(y, 3, 0, 0, 4, 0);
        due.is("what was FETCHED is WRITTEN back", 0, y.mended(3));
        due.is("BLAMED", 1, y.ofChip(9, 2));
        due.part("the DATA are those of the FETCH, though its end leaves the LINE BAD");
        Chipfield late = blamed(2, 99);
        late.mad(3, NONE);
        late.write(0, SOME_DATA);
        late.stick(8, 0, 15, 15 - late.seen(0, 8));
        late.stick(9, 0, 15, 15 - late.seen(0, 9));
        late.limit(2);
        due.is("LOADED", SOME_DATA, late.load(0));
        due.is("BAD then", NONE, late.mended(0));
        due.is("a HIT then", SOME_DATA, late.load(0));
        due.is("in its FRAME", SOME_DATA, late.held(0));
        due.is("not LOST", 0, late.bank(1));
    }

    private static int emptyFrames(Chipfield x) {
        int count = 0;
        for (int frame = 0; frame < 4; frame++) {
            count += x.ofFrame(frame, 0) == NONE ? 1 : 0;
        }
        return count;
    }

    private static void victims() {
        due.part("otherwise that with the smallest TIME");
        int[] orders = {0x0123, 0x1032, 0x2310, 0x3210, 0x3021};
        for (int order : orders) {
            Chipfield x = new Chipfield();
            for (int line = 0; line < 4; line++) {
                x.load(line);
            }
            for (int k = 3; k >= 0; k--) {
                x.load(order >> 4 * k & 15);
            }
            for (int k = 3; k >= 0; k--) {
                int frame = order >> 4 * k & 15;
                x.load(8 + k);
                due.is("FRAME " + frame + " in the order " + order, 8 + k, x.ofFrame(frame, 0));
            }
        }
        due.part("if that is DIRTY, its DATA are WRITTEN ahead of that (as a WORD of the CODE)");
        Chipfield x = new Chipfield();
        x.store(0, MOST_DATA);
        x.load(1);
        x.store(2, 22);
        x.load(3);
        x.write(1, 111);
        x.write(2, 222);
        spoil(x, 0);
        x.load(4);
        due.is("the oldest is WRITTEN, over a BAD LINE", MOST_DATA, x.data(0));
        due.is("as a WORD of the CODE", 0, x.mended(0));
        frameIs(x, 0, 4, 0, 5, 0);
        due.is("the others are not", 222, x.data(2));
        x.load(5);
        due.is("a CLEAN one is not WRITTEN", 111, x.data(1));
        x.store(6, 66);
        due.is("ahead of a STORE, too", 22, x.data(2));
        frameIs(x, 2, 6, 1, 7, 66);
        due.is("DIRTY ones", 1, x.bank(9));
        due.is("LOST", 0, x.bank(1));
        due.is("what was WRITTEN is LOADED", MOST_DATA, x.load(0));
    }

    private static void stores() {
        due.part("To STORE: if a FRAME has it, its DATA are these (DIRTY, used; a HIT)");
        Chipfield x = new Chipfield();
        x.load(7);
        due.is("a CLEAN one", 0, x.store(7, 70));
        frameIs(x, 0, 7, 1, 2, 70);
        due.is("a DIRTY one", 0, x.store(7, MOST_DATA));
        frameIs(x, 0, 7, 1, 3, MOST_DATA);
        due.is("HITS, MISSES, FETCHES", 211, x.bank(7) * 100 + x.bank(8) * 10 + x.bank(0));
        due.is("nothing is WRITTEN", 0, x.data(7));
        due.part("Otherwise it goes into a FRAME like that (DIRTY, used; a MISS, nothing is FETCHED)");
        Chipfield y = new Chipfield();
        y.ray(9, 0, 1);
        for (int line = 0; line < 4; line++) {
            due.is("the first empty one", line, y.store(line, line));
        }
        due.is("LINE 0 is not FETCHED", 1 << 9, y.mended(0));
        y.store(0, 5);
        due.is("the smallest TIME", 1, y.store(15, 0));
        due.is("then", 2, y.store(14, MOST_DATA));
        due.is("then", 3, y.store(13, 1));
        due.is("then", 0, y.store(12, 2));
        due.is("HITS, MISSES, FETCHES", 180, y.bank(7) * 100 + y.bank(8) * 10 + y.bank(0));
        due.is("what went was WRITTEN", 5123, y.data(0) * 1000 + y.data(1) * 100 + y.data(2) * 10 + y.data(3));
        frameIs(y, 0, 12, 1, 9, 2);
        frameIs(y, 1, 15, 1, 6, 0);
        due.part("a STORE into a LINE that is BAD");
        Chipfield bad = new Chipfield();
        spoil(bad, 15);
        due.is("is none that is LOST", 0, bad.store(15, 1) + bad.bank(1) + bad.bank(0));
        due.is("a HIT then", 1, bad.load(15));
        due.is("BAD as yet", 1, bad.bank(10));
        bad.flush();
        due.is("not any more", 1, bad.data(15));
    }

    private static void flushes() {
        due.part("To FLUSH: all DIRTY FRAMES are WRITTEN, and CLEAN then");
        Chipfield x = new Chipfield();
        for (int line = 0; line < 4; line++) {
            x.store(line, 10 + line);
        }
        due.is("four", 4, x.flush());
        for (int line = 0; line < 4; line++) {
            frameIs(x, line, line, 0, 1 + line, 10 + line);
            due.is("WRITTEN", 10 + line, x.data(line));
        }
        due.is("none", 0, x.flush());
        x.write(1, 99);
        x.write(2, 98);
        x.store(2, 12);
        due.is("one", 1, x.flush());
        due.is("the CLEAN one is not WRITTEN", 99, x.data(1));
        due.is("the DIRTY one is", 12, x.data(2));
        due.is("no use, no HIT, no MISS", 514, x.ofFrame(2, 2) * 100 + x.bank(7) * 10 + x.bank(8));
        due.is("no FETCH", 0, x.bank(0));
        x.load(9);
        due.is("CLEAN ones go unwritten", 9, x.ofFrame(0, 0));
    }

    // ---- 6. What the code does

    private static void fooled() {
        int[][] asked = {{0, 1, 2, 1, 1}, {0, 7, 14, 1, 15}, {14, 13, 12, 15, 15}, {14, 0, 6, 15, 1}, {5, 3, 9, 7, 8}};
        PlainModel model = new PlainModel();
        for (int[] one : asked) {
            String told = one[3] + " at " + one[0] + ", " + one[4] + " at " + one[1] + ", third " + one[2];
            int want = model.fooled(one[0], one[1], one[2], one[3], one[4]);
            Chipfield x = new Chipfield();
            due.part("how many of the 15 ELEMENTS .. is not BAD, but MENDED to another WORD");
            due.is(told, want, x.fooled(one[0], one[1], one[2], one[3], one[4]));
            due.part("(without ERASED places). (It is the same for all WORDS.)");
            x.erase(one[0], true);
            x.erase(one[1], true);
            x.write(0, SOME_DATA);
            spoil(x, 1);
            due.is(told, want, x.fooled(one[0], one[1], one[2], one[3], one[4]));
        }
    }

    private static void warden() {
        due.part("who calls holds no key, and is REFUSED (counted)");
        Chipfield x = new Chipfield();
        due.is("at first", 0, x.bank(12));
        due.is("once", 1, x.call());
        due.is("twice", 2, x.call());
        due.is("counted", 2, x.bank(12));
    }
}
