import java.util.Objects;

/** What the tests by hand share: checks that tell where an answer is not as due, and stores made ready. */
abstract class Bench {
    static final int NONE = -1;
    static final int CANT = -9;
    static final Class<?> INDEX = IndexOutOfBoundsException.class;
    static final Class<?> ARGUMENT = IllegalArgumentException.class;
    static final Class<?> STATE = IllegalStateException.class;

    /** What is tested just now. */
    static String at = "";
    static int wrong;
    static int checks;

    interface Call {
        Object answer();
    }

    interface CallWith {
        Object answer(int value);
    }

    private static void check(boolean isGood, String found) {
        checks++;
        if (!isGood) {
            wrong++;
            System.out.println(at + ", line " + lineOfTest() + ": " + found);
        }
    }

    private static String lineOfTest() {
        for (StackTraceElement frame : new Throwable().getStackTrace()) {
            if (!frame.getClassName().startsWith("Bench")) {
                return frame.getFileName() + ":" + frame.getLineNumber();
            }
        }
        return "?";
    }

    static void due(Object want, Object got) {
        check(Objects.equals(want, got), "answered " + got + ", due is " + want);
    }

    /** A call that throws must change nothing, too. */
    static void thrown(Patchstore x, Class<?> want, Call call) {
        unchanged(x, want, call);
    }

    /** A call that can't be done must change nothing. */
    static void cant(Patchstore x, Call call) {
        unchanged(x, CANT, call);
    }

    /** Whatever the answer is, the call must change nothing. */
    static void onlyAsks(Patchstore x, Call call) {
        long before = x.digest();
        String draft = x.draft();
        Object got = call.answer();
        check(before == x.digest() && draft.equals(x.draft()), "answered " + got + " and changed something");
    }

    private static void unchanged(Patchstore x, Object want, Call call) {
        long before = x.digest();
        String draft = x.draft();
        Object got;
        try {
            got = call.answer();
        } catch (RuntimeException e) {
            got = e.getClass();
        }
        boolean isChanged = before != x.digest() || !draft.equals(x.draft());
        check(want.equals(got) && !isChanged,
            "answered " + got + ", due is " + want + (isChanged ? "; it changed something" : ""));
    }

    /** Every value that is next to the range from low to high, or far from it, is refused. */
    static void outside(Patchstore x, Class<?> want, int low, int high, CallWith call) {
        int[] values = {low - 1, high + 1, Integer.MIN_VALUE, Integer.MAX_VALUE};
        for (int value : values) {
            thrown(x, want, () -> call.answer(value));
        }
    }

    static Patchstore fresh() {
        return new Patchstore();
    }

    static void write(Patchstore x, String words) {
        for (int rest = x.house(4); rest > 0; rest--) {
            x.erase(rest - 1);
        }
        for (int k = 0; k < words.length(); k++) {
            x.type(k, words.charAt(k) - 'a');
        }
    }

    static int record(Patchstore x, int store, int part, String words) {
        write(x, words);
        return x.record(store, part);
    }

    /** a|<x=y|z=w>|c in part 0 of store 0: changes 0 a c, 1 x, 2 y z, 3 w; lines a0 c1 x2 y3 z4 w5. */
    static Patchstore threeSides() {
        Patchstore x = fresh();
        record(x, 0, 0, "ac");
        x.pull(1, 0);
        x.pull(2, 0);
        record(x, 0, 0, "axc");
        record(x, 1, 0, "ayzc");
        record(x, 2, 0, "awc");
        x.pull(0, 1);
        x.pull(0, 2);
        return x;
    }

    /** Lines a0 b1 (change 0) and c2 (change 1, of store 1) stand in a ring of tells; c is killed: <a|b>. */
    static Patchstore ring() {
        Patchstore x = fresh();
        record(x, 0, 0, "ab");
        record(x, 1, 0, "c");
        x.pull(0, 1);
        x.pull(1, 0);
        x.tell(0, 1, 2);
        x.tell(1, 2, 0);
        x.pull(0, 1);
        return x;
    }

    /** 24 changes; part 0 of store 0 shows what it showed, part 1 has the name e or f. */
    static void fillChanges(Patchstore x) {
        for (int k = 0; x.house(1) < 24; k++) {
            x.name(0, 1, 4 + k % 2);
        }
    }

    /** Sixty lines, ten of them live (f ten times), in part 0 of store 0, by six changes. */
    static Patchstore sixtyLines() {
        Patchstore x = fresh();
        for (int k = 0; k < 6; k++) {
            record(x, 0, 0, "aaaaaaaaaa".replace('a', (char) ('a' + k)));
        }
        return x;
    }

    /** Eleven lines in part 0 of store 0 without a clash: the kill of the first one is taken out again. */
    static Patchstore elevenLines() {
        Patchstore x = fresh();
        record(x, 0, 0, "abcdefghij");
        x.kill(0, 0);
        record(x, 0, 0, "bcdefghijk");
        x.take(0, 1);
        return x;
    }

    /** Changes 0 (part 0: a), 1 (part 1: b) and 2 (part 0: c) in store 0, of which none hangs on another. */
    static Patchstore threeFree() {
        Patchstore x = fresh();
        record(x, 0, 0, "a");
        record(x, 0, 1, "b");
        record(x, 1, 0, "c");
        x.pull(0, 1);
        return x;
    }

    /** Changes 0 (a), 1 (ab) and 2 (cab) in store 0; 1 and 2 hang on 0. */
    static Patchstore chain() {
        Patchstore x = fresh();
        record(x, 0, 0, "a");
        record(x, 0, 0, "ab");
        record(x, 0, 0, "cab");
        return x;
    }

    /** Sixty live lines, a to j six times, in part 0 of store 0, without a clash. */
    static Patchstore sixtyRow() {
        Patchstore x = fresh();
        for (int k = 0; k < 6; k++) {
            record(x, 0, 0, "");
            record(x, 0, 0, "abcdefghij");
        }
        for (int change = 1; change < 11; change += 2) {
            x.take(0, change);
        }
        for (int k = 1; k < 6; k++) {
            x.tell(0, 10 * k - 1, 10 * k);
        }
        return x;
    }

    /** Changes 0 (a), 1 (ab) and 2 (abc) in store 0; 2 hangs on 1 alone directly, and 1 on 0; lines a0 b1 c2. */
    static Patchstore straight() {
        Patchstore x = fresh();
        x.type(0, 0);
        x.record(0, 0);
        x.type(1, 1);
        x.record(0, 0);
        x.type(2, 2);
        x.record(0, 0);
        return x;
    }

    /** So many lines (1 to 60), ten a change, in parts 0 and 1 of store 0, then of store 1, then of store 2. */
    static Patchstore plain(int many) {
        Patchstore x = fresh();
        for (int k = 0; k < 10; k++) {
            x.type(k, k);
        }
        for (int block = 0; 10 * block < many; block++) {
            for (int rest = 10; rest > many - 10 * block; rest--) {
                x.erase(rest - 1);
            }
            x.record(block / 2, block % 2);
        }
        return x;
    }

    /** Four lines of store 0, x0 ahead of z1 (change 0), y2 of w3 (change 1), and x0 of w3: a row of pairs unsure. */
    static Patchstore fourUnsure() {
        Patchstore x = fresh();
        record(x, 0, 0, "xz");
        record(x, 1, 0, "yw");
        x.pull(0, 1);
        x.tell(0, 0, 3);
        return x;
    }
}
