import java.util.ArrayList;
import java.util.Arrays;
import java.util.List;

/**
 * The arguments of every method: the least and the greatest, one below and one above, and far away,
 * each with each. What is named first is thrown, a call that throws changes nothing that later calls
 * can show, and neither does one that only asks.
 */
public final class ArgumentTest {

    private static final long MOST_DATA = (1L << 44) - 1;
    private static final Class<?> OUT = IndexOutOfBoundsException.class;
    private static final Class<?> ARGUMENT = IllegalArgumentException.class;
    private static final Class<?> STATE = IllegalStateException.class;
    private static final int[] FAR = {Integer.MIN_VALUE, Integer.MAX_VALUE, -16, 256, 65536, 1 << 30};
    private static final long[] FAR_LONG = {Long.MIN_VALUE, Long.MAX_VALUE, -1L << 32, 1L << 45, 1L << 48, 1L << 62};

    private static final Due due = new Due();
    private static final String BUSY = Calls.look(Calls.busy());
    private static final String FRESH = Calls.look(new Chipfield());

    /** What a parameter takes, and what is thrown for all else. */
    private static final class Kind {

        final Class<?> thrown;
        final List<Object> taken = new ArrayList<>();
        final List<Object> besides = new ArrayList<>();
        final List<Object> far = new ArrayList<>();

        Kind(Class<?> thrown, int least, int most) {
            this.thrown = thrown;
            taken.addAll(List.of(least, most));
            besides.addAll(List.of(least - 1, most + 1));
            for (int one : FAR) {
                if (one < least || one > most) {
                    far.add(one);
                }
            }
        }

        /** DATA. */
        Kind() {
            thrown = ARGUMENT;
            taken.addAll(List.of(0L, MOST_DATA));
            besides.addAll(List.of(-1L, MOST_DATA + 1));
            for (long one : FAR_LONG) {
                far.add(one);
            }
        }
    }

    private static final Kind LINE = new Kind(OUT, 0, 15);
    private static final Kind PLACE = new Kind(OUT, 0, 14);
    private static final Kind CHIP = new Kind(OUT, 0, 17);
    private static final Kind FRAME = new Kind(OUT, 0, 3);
    private static final Kind DATA = new Kind();
    private static final Kind ELEMENT = argument(0, 15);
    private static final Kind NOT_ZERO = argument(1, 15);

    private static Kind argument(int least, int most) {
        return new Kind(ARGUMENT, least, most);
    }

    public static void main(String[] args) {
        changes();
        asks();
        fooled();
        yesOrNo();
        eraseAFifth();
        replaceWithoutSpare();
        theSamePlaces();
        due.end();
    }

    private static void changes() {
        check("write", false, LINE, DATA);
        check("stick", false, CHIP, LINE, ELEMENT, ELEMENT);
        check("mad", false, CHIP, argument(-1, 15));
        check("ray", false, CHIP, LINE, NOT_ZERO);
        check("replace", false, PLACE);
        check("limit", false, argument(1, 99));
        check("fetch", false, LINE);
        check("patrol", false, argument(1, 40));
        check("load", false, LINE);
        check("store", false, LINE, DATA);
    }

    private static void asks() {
        check("times", true, ELEMENT, ELEMENT);
        check("power", true, argument(0, 999));
        check("symbol", true, DATA, PLACE);
        check("seen", true, LINE, PLACE);
        check("sum", true, LINE, argument(1, 4));
        check("mended", true, LINE);
        check("data", true, LINE);
        check("ofChip", true, CHIP, argument(0, 5));
        check("stored", true, CHIP, LINE);
        check("ofFrame", true, FRAME, argument(0, 2));
        check("held", true, FRAME);
        check("bank", true, argument(0, 12));
        check("row", true, LINE);
        check("wouldMend", true, LINE, argument(0, 32767));
        check("spare", true, LINE);
        check("wouldLose", true, PLACE, ELEMENT);
        check("health", true);
        check("isSound", true);
        check("digest", true);
    }

    // ---- each argument with each

    private static void check(String name, boolean isAsking, Kind... kinds) {
        due.part(name);
        Object[] given = new Object[kinds.length];
        eachWithEach(name, isAsking, kinds, given, 0);
        for (int far = 0; far < kinds.length; far++) {
            for (Object one : kinds[far].far) {
                for (int k = 0; k < kinds.length; k++) {
                    given[k] = kinds[k].taken.get(0);
                }
                given[far] = one;
                checkCall(name, isAsking, kinds, given);
            }
        }
    }

    private static void eachWithEach(String name, boolean isAsking, Kind[] kinds, Object[] given, int from) {
        if (from == kinds.length) {
            checkCall(name, isAsking, kinds, given);
            return;
        }
        List<Object> tried = new ArrayList<>(kinds[from].taken);
        tried.addAll(kinds[from].besides);
        for (Object one : tried) {
            given[from] = one;
            eachWithEach(name, isAsking, kinds, given, from + 1);
        }
    }

    private static void checkCall(String name, boolean isAsking, Kind[] kinds, Object[] given) {
        Class<?> want = named(kinds, given);
        if (want != null) {
            refused(want, name, given.clone());
        } else {
            taken(isAsking, name, given.clone());
        }
    }

    /** In every method of the document the index is named first. */
    private static Class<?> named(Kind[] kinds, Object[] given) {
        Class<?> named = null;
        for (int k = 0; k < kinds.length; k++) {
            if (!kinds[k].taken.contains(given[k]) && named != OUT) {
                named = kinds[k].thrown;
            }
        }
        return named;
    }

    private static void refused(Class<?> want, String name, Object... given) {
        String told = name + Arrays.toString(given);
        Chipfield busy = Calls.busy();
        due.is(told, want.getName(), Calls.outcome(busy, name, given));
        due.is(told + " in use: what it changed", BUSY, Calls.look(busy));
        Chipfield fresh = new Chipfield();
        due.is(told + " at first", want.getName(), Calls.outcome(fresh, name, given));
        due.is(told + " at first: what it changed", FRESH, Calls.look(fresh));
    }

    private static void taken(boolean isAsking, String name, Object... given) {
        String told = name + Arrays.toString(given);
        Chipfield busy = Calls.busy();
        String answer = Calls.outcome(busy, name, given);
        due.is(told + " throws " + answer, false, answer.contains("Exception"));
        if (isAsking) {
            due.is(told + " again", answer, Calls.outcome(busy, name, given));
            due.is(told + ": what asking changed", BUSY, Calls.look(busy));
        }
    }

    // ---- fooled: its three places differ

    private static void fooled() {
        due.part("fooled");
        int[][] places = {{0, 14, -1, 15}, {1, 13, -1, 15}, {2, 12, -1, 15}};
        int[] elements = {1, 15, 0, 16};
        for (int pick = 0; pick < 1024; pick++) {
            Object[] given = new Object[5];
            boolean isOut = false;
            for (int k = 0; k < 3; k++) {
                given[k] = places[k][pick >> 2 * k & 3];
                isOut = isOut || (pick >> 2 * k & 2) != 0;
            }
            given[3] = elements[pick >> 6 & 3];
            given[4] = elements[pick >> 8 & 3];
            if (isOut) {
                refused(OUT, "fooled", given);
            } else if ((pick >> 6 & 2) + (pick >> 8 & 2) != 0) {
                refused(ARGUMENT, "fooled", given);
            } else {
                taken(true, "fooled", given);
            }
        }
        for (int far : FAR) {
            refused(OUT, "fooled", far, 1, 2, 1, 1);
            refused(OUT, "fooled", 0, far, 2, 1, 1);
            refused(OUT, "fooled", 0, 1, far, 1, 1);
            refused(ARGUMENT, "fooled", 0, 1, 2, far, 1);
            refused(ARGUMENT, "fooled", 0, 1, 2, 1, far);
        }
    }

    private static void theSamePlaces() {
        due.part("fooled: two places are the same");
        for (int place : new int[] {0, 7, 14}) {
            refused(ARGUMENT, "fooled", place, place, 3, 1, 1);
            refused(ARGUMENT, "fooled", place, 3, place, 1, 1);
            refused(ARGUMENT, "fooled", 3, place, place, 1, 1);
            refused(ARGUMENT, "fooled", place, place, place, 1, 1);
            refused(ARGUMENT, "fooled", place, place, 3, 0, 16);
        }
        due.part("fooled: a place that is not there is named ahead of two that are the same");
        for (int beside : new int[] {-1, 15}) {
            refused(OUT, "fooled", beside, beside, 3, 1, 1);
            refused(OUT, "fooled", 3, beside, beside, 0, 1);
            refused(OUT, "fooled", 3, 3, beside, 1, 0);
            refused(OUT, "fooled", beside, 3, 3, 1, 1);
        }
    }

    // ---- erase: a place, and yes or no

    private static void yesOrNo() {
        due.part("erase");
        for (boolean isErased : new boolean[] {false, true}) {
            for (int place : new int[] {-1, 15, Integer.MIN_VALUE, Integer.MAX_VALUE, -16, 256, 65536}) {
                refused(OUT, "erase", place, isErased);
            }
            for (int place : new int[] {0, 14}) {
                taken(false, "erase", place, isErased);
            }
        }
    }

    // ---- what the state forbids

    private static Chipfield withErased(int... places) {
        Chipfield x = Calls.busy();
        x.erase(2, false);
        x.erase(6, false);
        for (int place : places) {
            x.erase(place, true);
        }
        return x;
    }

    private static void eraseAFifth() {
        due.part("erase: 4 others are ERASED, and it would be");
        String before = Calls.look(withErased(0, 5, 9, 14));
        for (int place = -1; place <= 15; place++) {
            boolean isPlace = place >= 0 && place <= 14;
            boolean isOneOfThem = place == 0 || place == 5 || place == 9 || place == 14;
            String want = isOneOfThem ? "4" : isPlace ? STATE.getName() : OUT.getName();
            Chipfield x = withErased(0, 5, 9, 14);
            due.is("erase(" + place + ", true)", want, Calls.outcome(x, "erase", place, true));
            due.is("erase(" + place + ", true): what it changed", before, Calls.look(x));
            Chipfield y = withErased(0, 5, 9, 14);
            String less = isOneOfThem ? "3" : isPlace ? "4" : OUT.getName();
            due.is("erase(" + place + ", false)", less, Calls.outcome(y, "erase", place, false));
            if (!isOneOfThem) {
                due.is("erase(" + place + ", false): what it changed", before, Calls.look(y));
            }
        }
        due.part("erase: 3 others are ERASED, and it would be");
        for (int place = 0; place < 15; place++) {
            String want = place == 0 || place == 5 || place == 14 ? "3" : "4";
            due.is("erase(" + place + ", true)", want, Calls.outcome(withErased(0, 5, 14), "erase", place, true));
        }
        due.part("erase: one of the others is on a CHIP that is OUT");
        Chipfield x = withErased(0, 5, 9, 14);
        x.replace(5);
        due.is("four again", 4, x.erase(5, true));
        due.is("a fifth", STATE.getName(), Calls.outcome(x, "erase", 6, true));
    }

    private static void replaceWithoutSpare() {
        due.part("replace: no SPARE is left");
        String before = Calls.look(withoutSpare());
        for (int place = -1; place <= 15; place++) {
            Chipfield x = withoutSpare();
            String want = place >= 0 && place <= 14 ? STATE.getName() : OUT.getName();
            due.is("replace(" + place + ")", want, Calls.outcome(x, "replace", place));
            due.is("replace(" + place + "): what it changed", before, Calls.look(x));
        }
    }

    private static Chipfield withoutSpare() {
        Chipfield x = Calls.busy();
        due.is("the second SPARE", 16, x.replace(13));
        due.is("the last SPARE", 17, x.replace(0));
        return x;
    }
}
