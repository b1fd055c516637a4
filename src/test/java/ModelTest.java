import java.lang.reflect.InvocationTargetException;
import java.lang.reflect.Method;
import java.util.Arrays;
import java.util.HashMap;
import java.util.Map;
import java.util.TreeMap;

/**
 * Runs of calls, drawn by a fixed rule, on a Patchstore and on the PlainStores at once: each answer, each exception
 * and the digests must be the same. An argument tells how many runs.
 */
public final class ModelTest {
    // s store, p part, l line, c change, w word, t tag, k place or number, b boolean, 1 to 9 a what up to that.
    private static final String[] RECORDING = {
        "record sp", "record sp", "record sp", "record sp", "kill sl", "revive sl", "tell sll", "tell sll",
        "name spw", "settle spkk", "settle spkk", "settle spkk", "move spkkk", "move spkkk",
    };
    private static final String[] DRAFTING = {
        "type kw", "type kw", "type kw", "type kw", "erase k", "load sp", "load sp",
    };
    private static final String[] MOVING = {
        "put sc", "put sc", "take sc", "putAll sc", "takeAll sc", "swap sk", "pull ss", "pull ss", "pull ss",
        "tag s", "asTagged st", "walk s", "forth", "forth", "back", "drop", "knock",
    };
    private static final String[] ASKING = {
        "draft", "shown sp", "ofPart sp5", "at spk4", "sides spk", "side spkk", "blame sp", "nameOf sp", "state sl",
        "isAhead sll", "isAlike ss", "ofLine l6", "ofChange c9", "edits c", "ofStore s4", "ordered sk", "placeOf sc",
        "lacks ss", "wouldClash sc", "search swb", "tagged tb", "walked 2", "house 4", "isSound",
    };

    private static final int NONE = -1;

    private final Map<String, Method> methods = new HashMap<>();
    private final Map<String, Integer> answered = new TreeMap<>();
    private final StringBuilder told = new StringBuilder();
    private long seed;
    private Patchstore real;
    private PlainStores plain;

    private ModelTest() throws NoSuchMethodException {
        for (Method method : Patchstore.class.getDeclaredMethods()) {
            if (java.lang.reflect.Modifier.isPublic(method.getModifiers())) {
                Method twin = PlainStores.class.getDeclaredMethod(method.getName(), method.getParameterTypes());
                methods.put("real " + method.getName(), method);
                methods.put("plain " + method.getName(), twin);
            }
        }
    }

    public static void main(String[] args) throws ReflectiveOperationException {
        int runs = args.length > 0 ? Integer.parseInt(args[0]) : 150;
        ModelTest test = new ModelTest();
        for (int run = 1; run <= runs; run++) {
            if (!test.isRunSame(run)) {
                System.out.println("run " + run + " ends unlike:\n" + test.told);
                System.exit(1);
            }
        }
        if (args.length > 1) {
            test.answered.forEach((kind, count) -> System.out.println(kind + ": " + count));
        }
        System.out.println("ModelTest: " + runs + " runs are the same");
    }

    private int drawn(int bound) {
        seed = seed * 6364136223846793005L + 1442695040888963407L;
        return (int) ((seed >>> 33) % bound);
    }

    private boolean isRunSame(int run) throws ReflectiveOperationException {
        seed = run * 7919L;
        told.setLength(0);
        real = new Patchstore();
        plain = new PlainStores();
        int words = 2 + drawn(8);
        int parts = 1 + drawn(2);
        int drafting = 1 + drawn(6);
        int moving = 1 + drawn(4);
        // With a digest at each sixteenth, these are 512 at most.
        int calls = 40 + drawn(441);
        for (int call = 0; call < calls; call++) {
            int kind = drawn(drafting + moving + 4);
            String[] row = kind < drafting ? DRAFTING : kind < drafting + moving ? MOVING
                : kind < drafting + moving + 2 ? RECORDING : ASKING;
            if (!isCallSame(row[drawn(row.length)], words, parts)) {
                return false;
            }
            if ((call % 16 == 15 || call == calls - 1) && !isCallSame("digest", words, parts)) {
                return false;
            }
        }
        return true;
    }

    private boolean isCallSame(String call, int words, int parts) throws ReflectiveOperationException {
        int space = call.indexOf(' ');
        String name = space < 0 ? call : call.substring(0, space);
        String kinds = space < 0 ? "" : call.substring(space + 1);
        Object[] values = new Object[kinds.length()];
        for (int k = 0; k < values.length; k++) {
            values[k] = value(kinds.charAt(k), words, parts);
        }
        if (drawn(6) != 0) {
            fit(name, values);
        }
        Object got = answer("real " + name, real, values);
        Object due = answer("plain " + name, plain, values);
        told.append(name).append(Arrays.toString(values)).append(" -> ").append(got).append('\n');
        String kind = name + (got instanceof String && ((String) got).startsWith("throws") ? " " + got
            : got.equals(-9) ? " -9" : "");
        answered.merge(kind, 1, Integer::sum);
        if (!got.equals(due)) {
            told.append("but due is ").append(due).append('\n');
        }
        return got.equals(due);
    }

    private Object answer(String key, Object object, Object[] values) throws ReflectiveOperationException {
        try {
            return methods.get(key).invoke(object, values);
        } catch (InvocationTargetException e) {
            return "throws " + e.getCause().getClass().getName();
        }
    }

    private Object value(char kind, int words, int parts) {
        if (kind == 'b') {
            return drawn(2) == 0;
        }
        if (drawn(60) == 0) {
            int[] odd = {-1, Integer.MIN_VALUE, Integer.MAX_VALUE, 3, 26, 60, 24, -2, 64, 32};
            return odd[drawn(odd.length)];
        }
        switch (kind) {
            case 's':
                return drawn(3);
            case 'p':
                return drawn(5) == 0 ? drawn(2) : parts - 1;
            case 'l':
                return lately(plain.house(0));
            case 'c':
                return lately(plain.house(1));
            case 't':
                return drawn(1 + plain.house(2));
            case 'w':
                return drawn(words);
            case 'k':
                return drawn(drawn(2) == 0 ? 3 : 12);
            default:
                return drawn(kind - '0' + 1);
        }
    }

    /** Bends values to what is there, as most drawn blindly can't be done. */
    private void fit(String name, Object[] values) {
        int store = values.length > 0 && values[0] instanceof Integer ? (Integer) values[0] : NONE;
        int part = values.length > 1 && values[1] instanceof Integer ? (Integer) values[1] : NONE;
        boolean isPart = store >= 0 && store <= 2 && part >= 0 && part <= 1;
        int size = isPart ? plain.ofPart(store, part, 0) : 0;
        switch (name) {
            case "type":
                values[0] = drawn(plain.house(4) + 1);
                break;
            case "erase":
                values[0] = drawn(Math.max(1, plain.house(4)));
                break;
            case "move":
                if (size > 1) {
                    int from = drawn(size);
                    int to = from + 1 + drawn(Math.min(4, size - from));
                    values[2] = from;
                    values[3] = to;
                    values[4] = drawn(size - (to - from) + 1);
                }
                break;
            case "at":
                values[2] = drawn(Math.max(1, size));
                break;
            case "kill":
                fitLines(store, values);
                break;
            case "tell":
                fitLines(store, values);
                fitUnsure(store, values);
                break;
            case "isAhead":
                if (drawn(2) == 0) {
                    fitUnsure(store, values);
                }
                break;
            case "revive":
                fitDead(store, values);
                break;
            case "settle":
            case "sides":
            case "side":
                values[2] = drawn(isPart ? Math.max(1, plain.ofPart(store, part, 3)) : 1);
                break;
            default:
                break;
        }
    }

    private void fitLines(int store, Object[] values) {
        int part = drawn(2);
        int size = store >= 0 && store <= 2 ? plain.ofPart(store, part, 0) : 0;
        int place = drawn(Math.max(1, size));
        for (int k = 1; k < values.length; k++) {
            int next = Math.max(0, Math.min(size - 1, place + (k == 1 ? 0 : drawn(5) - 2)));
            values[k] = size == 0 ? 0 : plain.at(store, part, next, 0);
        }
    }

    private void fitUnsure(int store, Object[] values) {
        for (int one = 0; one < plain.house(0) && store >= 0 && store <= 2; one++) {
            for (int other = 0; other < plain.house(0); other++) {
                if (plain.isUnsure(store, one, other) && drawn(3) == 0) {
                    values[1] = one;
                    values[2] = other;
                }
            }
        }
    }

    private void fitDead(int store, Object[] values) {
        for (int line = 0; line < plain.house(0) && store >= 0 && store <= 2; line++) {
            if (plain.state(store, line) == 1 && drawn(3) != 0) {
                values[1] = line;
            }
        }
    }

    private int lately(int count) {
        int last = Math.min(count, 8);
        return drawn(30) == 0 ? count : drawn(3) == 0 || count == 0 ? drawn(count + 1) : count - 1 - drawn(last);
    }
}
