import java.lang.reflect.InvocationTargetException;
import java.lang.reflect.Method;
import java.util.Arrays;

/**
 * Each number that a call takes, out of its range while all the others are good: the exception that is due, thrown by
 * the program's own hand (the machine's are classes below), and nothing changed.
 */
public final class WrongTest {
    // s store, p part, l line, c change, t tag, r place of the row, e end of a block, o place of the order, d place of
    // the draft, q place that a word gets: Index. w word, n number from 0, m place among others, 2 to 9 a what:
    // Argument.
    private static final String[] CALLS = {
        "type qw", "erase d", "load sp", "record sp", "kill sl", "revive sl", "tell sll", "name spw", "settle spnn",
        "move sprem", "put sc", "take sc", "putAll sc", "takeAll sc", "swap so", "pull ss", "tag s", "asTagged st",
        "walk s", "shown sp", "ofPart sp5", "at spr4", "sides spn", "side spnn", "blame sp", "nameOf sp", "state sl",
        "isAhead sll", "isAlike ss", "ofLine l6", "ofChange c9", "edits c", "ofStore s4", "ordered so", "placeOf sc",
        "lacks ss", "wouldClash sc", "search swb", "tagged tb", "walked 2", "house 4",
    };

    private static int wrong;

    /** Two lines, a and b, of two changes in part 0 of each store, and a tag; the draft is ab. */
    private static Patchstore small() {
        Patchstore x = new Patchstore();
        x.type(0, 0);
        x.record(0, 0);
        x.type(1, 1);
        x.record(0, 0);
        x.pull(1, 0);
        x.pull(2, 0);
        x.tag(0);
        return x;
    }

    private static int bound(char kind, String name) {
        switch (kind) {
            case 's':
                return 3;
            case 't':
                return 1;
            case 'q':
            case 'e':
                return 3;
            case 'w':
                return 26;
            case 'n':
                return Integer.MAX_VALUE;
            case 'o':
                return name.equals("swap") ? 1 : 2;
            case 'p':
            case 'l':
            case 'c':
            case 'r':
            case 'd':
            case 'm':
                return 2;
            default:
                return kind - '0' + 1;
        }
    }

    private static boolean isIndex(char kind) {
        return "splctreodq".indexOf(kind) >= 0;
    }

    private static Method method(String name) {
        for (Method method : Patchstore.class.getDeclaredMethods()) {
            if (method.getName().equals(name)) {
                return method;
            }
        }
        throw new AssertionError(name);
    }

    private static Object[] good(String kinds) {
        Object[] values = new Object[kinds.length()];
        for (int k = 0; k < values.length; k++) {
            values[k] = kinds.charAt(k) == 'b' ? (Object) true : kinds.charAt(k) == 'e' ? 1 : 0;
        }
        return values;
    }

    private static void check(String name, Object[] values, Class<?> want) throws ReflectiveOperationException {
        Patchstore x = small();
        long before = x.digest();
        Object got;
        try {
            got = method(name).invoke(x, values);
        } catch (InvocationTargetException e) {
            got = e.getCause().getClass();
        }
        boolean isChanged = before != x.digest() || !x.draft().equals("ab");
        if (want == null ? got instanceof Class : !want.equals(got) || isChanged) {
            wrong++;
            System.out.println(name + Arrays.toString(values) + " answered " + got + ", due is "
                + (want == null ? "an answer" : want));
        }
    }

    private static void checkCall(String name, String kinds) throws ReflectiveOperationException {
        check(name, good(kinds), null);
        for (int k = 0; k < kinds.length(); k++) {
            char kind = kinds.charAt(k);
            if (kind == 'b') {
                continue;
            }
            int bound = bound(kind, name);
            int[] bad = {-1, Integer.MIN_VALUE, bound, bound + 1, Integer.MAX_VALUE};
            for (int value : bad) {
                if (value < 0 || value >= bound && bound < Integer.MAX_VALUE) {
                    Object[] values = good(kinds);
                    values[k] = value;
                    check(name, values, isIndex(kind) ? IndexOutOfBoundsException.class
                        : IllegalArgumentException.class);
                    // What is named first goes first, whatever comes behind it.
                    for (int later = k + 1; later < values.length; later++) {
                        if (kinds.charAt(later) != 'b') {
                            values[later] = -1;
                        }
                    }
                    check(name, values, isIndex(kind) ? IndexOutOfBoundsException.class
                        : IllegalArgumentException.class);
                }
            }
        }
    }

    public static void main(String[] args) throws ReflectiveOperationException {
        for (String call : CALLS) {
            int space = call.indexOf(' ');
            checkCall(call.substring(0, space), call.substring(space + 1));
        }
        if (wrong > 0) {
            System.exit(1);
        }
        System.out.println("WrongTest: wrong numbers are refused as due");
    }
}
