import java.util.ArrayList;
import java.util.Arrays;
import java.util.List;
import java.util.Map;

/** Runs of calls, the same at every start, on the program and on the plain model side by side. */
public final class ModelTest {

    private static final int RUNS = 240;
    private static final int CALLS = 200;

    /** What each parameter is, by method: kinds of arguments are told in argument(). */
    private static final Map<String, String> KINDS = Map.ofEntries(
            Map.entry("write", "LD"), Map.entry("stick", "CLEE"), Map.entry("mad", "CK"), Map.entry("ray", "CLE"),
            Map.entry("erase", "PB"), Map.entry("replace", "P"), Map.entry("limit", "M"), Map.entry("fetch", "L"),
            Map.entry("patrol", "S"), Map.entry("load", "L"), Map.entry("store", "LD"), Map.entry("flush", ""),
            Map.entry("call", ""), Map.entry("times", "EE"), Map.entry("power", "N"), Map.entry("symbol", "DP"),
            Map.entry("fooled", "PPPEE"), Map.entry("seen", "LP"), Map.entry("sum", "LJ"), Map.entry("mended", "L"),
            Map.entry("data", "L"), Map.entry("ofChip", "CW"), Map.entry("stored", "CL"), Map.entry("ofFrame", "FX"),
            Map.entry("held", "F"), Map.entry("bank", "Y"), Map.entry("row", "L"), Map.entry("wouldMend", "LZ"),
            Map.entry("spare", "L"), Map.entry("wouldLose", "PE"), Map.entry("health", ""),
            Map.entry("isSound", ""));

    /** What makes runs worth comparing stands here more often. */
    private static final String[] CHANGES = {"write", "write", "stick", "stick", "mad", "ray", "ray", "ray", "ray",
        "ray", "erase", "replace", "limit", "fetch", "fetch", "fetch", "fetch", "patrol", "load", "load", "load",
        "store", "store", "flush", "call"};

    private static final Due due = new Due();
    private static long seed = 20261119;

    public static void main(String[] args) {
        List<String> asked = new ArrayList<>(KINDS.keySet());
        asked.sort(null);
        for (int run = 0; run < RUNS; run++) {
            due.part("run " + run);
            compare(asked, run);
        }
        due.end();
    }

    private static void compare(List<String> asked, int run) {
        Chipfield program = new Chipfield();
        PlainModel model = new PlainModel();
        // A run in which fewer LINES, PLACES and CHIPS are named has more that comes together.
        int narrow = run % 3 == 0 ? 3 : 99;
        for (int k = 0; k < CALLS; k++) {
            boolean isChange = below(100) < 60;
            String name = isChange ? CHANGES[below(CHANGES.length)] : asked.get(below(asked.size()));
            Object[] given = arguments(name, narrow);
            String told = name + Arrays.toString(given) + " at call " + k;
            due.is(told, Calls.outcome(model, name, given), Calls.outcome(program, name, given));
            if (k % 25 == 24) {
                due.is("digest at call " + k, model.digest(), program.digest());
            }
        }
    }

    private static Object[] arguments(String name, int narrow) {
        String kinds = KINDS.get(name);
        Object[] given = new Object[kinds.length()];
        for (int k = 0; k < given.length; k++) {
            given[k] = argument(kinds.charAt(k), narrow);
        }
        return given;
    }

    private static Object argument(char kind, int narrow) {
        switch (kind) {
            case 'L': return near(0, Math.min(15, narrow));
            case 'C': return below(6) == 0 ? near(15, 17) : near(0, Math.min(17, 2 * narrow));
            case 'P': return near(0, Math.min(14, 2 * narrow));
            case 'E': return near(0, 15);
            case 'K': return below(3) == 0 ? near(0, 15) : (Integer) (-1);
            case 'B': return below(2) == 0;
            case 'M': return below(4) == 0 ? near(1, 99) : near(1, 4);
            case 'S': return below(4) == 0 ? near(1, 40) : near(1, 4);
            case 'N': return near(0, 999);
            case 'J': return near(1, 4);
            case 'W': return near(0, 5);
            case 'F': return near(0, 3);
            case 'X': return near(0, 2);
            case 'Y': return near(0, 12);
            case 'Z': return below(5) == 0 ? near(0, 32767) : (Integer) (1 << below(15) | 1 << below(15));
            default: return data();
        }
    }

    /** From least to most; now and then one beside these, or far away. */
    private static Integer near(int least, int most) {
        int dice = below(120);
        if (dice < 2) {
            return dice == 0 ? least - 1 : most + 1;
        }
        if (dice == 2) {
            return below(2) == 0 ? Integer.MIN_VALUE : Integer.MAX_VALUE;
        }
        return least + below(most - least + 1);
    }

    private static Long data() {
        int dice = below(40);
        if (dice == 0) {
            return -1L - below(3);
        }
        if (dice == 1) {
            return (1L << 44) - 1 + below(3);
        }
        if (dice == 2) {
            return below(2) == 0 ? Long.MIN_VALUE : Long.MAX_VALUE;
        }
        return dice < 20 ? (long) below(100) : (long) below(1 << 22) << 22 | below(1 << 22);
    }

    private static int below(int bound) {
        seed = seed * 6364136223846793005L + 1442695040888963407L;
        return (int) ((seed >>> 33) % bound);
    }
}
