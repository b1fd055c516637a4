import java.util.ArrayDeque;
import java.util.ArrayList;
import java.util.Arrays;
import java.util.Collections;
import java.util.HashMap;
import java.util.List;
import java.util.Map;
import java.util.TreeMap;
import java.util.TreeSet;

/**
 * The document once more, as plainly as the Java library lets it be said, with nothing of Patchstore's own ways.
 * ModelTest holds Patchstore against it.
 */
final class PlainStores {
    static final int NONE = -1;
    static final int CANT = -9;

    record Line(int part, int word, int up, int down, int former, int by) { }

    record Edit(char kind, int one, int other, TreeSet<Integer> set) { }

    static final class Change {
        final int part;
        final List<Edit> edits = new ArrayList<>();

        Change(int part) {
            this.part = part;
        }
    }

    private final List<Line> lines = new ArrayList<>();
    private final List<Change> changes = new ArrayList<>();
    private final List<List<Integer>> stores = new ArrayList<>();
    private final List<List<Integer>> tags = new ArrayList<>();
    private final List<Integer> draft = new ArrayList<>();
    // Neither can become another one: a change stays as it was recorded.
    private final Map<String, Look> looks = new HashMap<>();
    private final Map<Integer, TreeSet<Integer>> hangsOn = new HashMap<>();
    private int walkStore = NONE;
    private int walkAhead = NONE;
    private int walkPassed = NONE;
    private int knocks;

    PlainStores() {
        for (int k = 0; k < 3; k++) {
            stores.add(new ArrayList<>());
        }
    }

    // ---- what is asked first

    private static void index(boolean isGood) {
        if (!isGood) {
            throw new IndexOutOfBoundsException();
        }
    }

    private static void argument(boolean isGood) {
        if (!isGood) {
            throw new IllegalArgumentException();
        }
    }

    private static void allowed(boolean isGood) {
        if (!isGood) {
            throw new IllegalStateException();
        }
    }

    private static boolean in(int k, int low, int high) {
        return low <= k && k <= high;
    }

    private void storePart(int store, int part) {
        index(in(store, 0, 2) && in(part, 0, 1));
    }

    private void storeLine(int store, int line) {
        index(in(store, 0, 2) && in(line, 0, lines.size() - 1));
    }

    private void storeChange(int store, int change) {
        index(in(store, 0, 2) && in(change, 0, changes.size() - 1));
    }

    private static int sum(Iterable<Integer> set) {
        int sum = 0;
        for (int k : set) {
            sum += 1 << k;
        }
        return sum;
    }

    private static char letter(int word) {
        return (char) ('a' + word);
    }

    // ---- section 1

    private TreeSet<Integer> hangsDirectly(int change) {
        TreeSet<Integer> found = new TreeSet<>();
        for (Edit edit : changes.get(change).edits) {
            if (edit.kind == '+') {
                Line line = lines.get(edit.one);
                if (line.up != NONE) {
                    found.add(lines.get(line.up).by);
                }
                if (line.down != NONE) {
                    found.add(lines.get(line.down).by);
                }
            } else if (edit.kind != '=') {
                found.add(lines.get(edit.one).by);
            }
            if (edit.kind == '>') {
                found.add(lines.get(edit.other).by);
            }
            if (edit.set != null) {
                found.addAll(edit.set);
            }
        }
        found.remove(change);
        return found;
    }

    private TreeSet<Integer> hangs(int change) {
        return new TreeSet<>(hangsOn.computeIfAbsent(change, this::findHangs));
    }

    private TreeSet<Integer> findHangs(int change) {
        TreeSet<Integer> found = new TreeSet<>();
        ArrayDeque<Integer> todo = new ArrayDeque<>(hangsDirectly(change));
        while (!todo.isEmpty()) {
            int next = todo.poll();
            if (found.add(next)) {
                todo.addAll(hangsDirectly(next));
            }
        }
        return found;
    }

    private TreeSet<Integer> hangers(int change) {
        TreeSet<Integer> found = new TreeSet<>();
        for (int other = 0; other < changes.size(); other++) {
            if (hangsOn.computeIfAbsent(other, this::findHangs).contains(change)) {
                found.add(other);
            }
        }
        return found;
    }

    private int writer(int line) {
        Line it = lines.get(line);
        return it.former == NONE ? it.by : writer(it.former);
    }

    // ---- section 2

    private TreeSet<Integer> there(TreeSet<Integer> set, int part) {
        TreeSet<Integer> found = new TreeSet<>();
        for (int line = 0; line < lines.size(); line++) {
            if (lines.get(line).part == part && set.contains(lines.get(line).by)) {
                found.add(line);
            }
        }
        return found;
    }

    private boolean isDead(TreeSet<Integer> set, int line) {
        for (int outer : set) {
            for (Edit edit : changes.get(outer).edits) {
                if (edit.kind == '-' && edit.one == line && !isEnded(set, line, outer)) {
                    return true;
                }
            }
        }
        return false;
    }

    private boolean isEnded(TreeSet<Integer> set, int line, int outer) {
        for (int change : set) {
            for (Edit edit : changes.get(change).edits) {
                if (edit.kind == '^' && edit.one == line && edit.set.contains(outer)) {
                    return true;
                }
            }
        }
        return false;
    }

    /** What one part shows with a set of changes. */
    private final class Look {
        final TreeSet<Integer> there;
        final TreeSet<Integer> live = new TreeSet<>();
        final Map<Integer, TreeSet<Integer>> steps = new TreeMap<>();
        final Map<Integer, TreeSet<Integer>> ways = new TreeMap<>();
        final List<List<Integer>> knots = new ArrayList<>();

        Look(TreeSet<Integer> set, int part) {
            there = there(set, part);
            for (int line : there) {
                steps.put(line, new TreeSet<>());
                if (!isDead(set, line)) {
                    live.add(line);
                }
            }
            for (int line : there) {
                Line it = lines.get(line);
                if (it.up != NONE) {
                    steps.get(it.up).add(line);
                }
                if (it.down != NONE) {
                    steps.get(line).add(it.down);
                }
            }
            for (int change : set) {
                for (Edit edit : changes.get(change).edits) {
                    if (edit.kind == '>' && changes.get(change).part == part) {
                        steps.get(edit.one).add(edit.other);
                    }
                }
            }
            for (int line : there) {
                ways.put(line, reached(line));
            }
            findKnots();
        }

        private TreeSet<Integer> reached(int line) {
            TreeSet<Integer> found = new TreeSet<>();
            ArrayDeque<Integer> todo = new ArrayDeque<>(steps.get(line));
            while (!todo.isEmpty()) {
                int next = todo.poll();
                if (found.add(next)) {
                    todo.addAll(steps.get(next));
                }
            }
            return found;
        }

        boolean isAhead(int one, int other) {
            return there.contains(one) && there.contains(other)
                && ways.get(one).contains(other) && !ways.get(other).contains(one);
        }

        boolean isUnsure(int one, int other) {
            return one != other && live.contains(one) && live.contains(other)
                && !isAhead(one, other) && !isAhead(other, one);
        }

        private void findKnots() {
            TreeSet<Integer> rest = new TreeSet<>(live);
            while (!rest.isEmpty()) {
                TreeSet<Integer> knot = new TreeSet<>();
                ArrayDeque<Integer> todo = new ArrayDeque<>();
                todo.add(rest.first());
                while (!todo.isEmpty()) {
                    int line = todo.poll();
                    if (knot.add(line)) {
                        for (int other : live) {
                            if (isUnsure(line, other)) {
                                todo.add(other);
                            }
                        }
                    }
                }
                rest.removeAll(knot);
                knots.add(new ArrayList<>(knot));
            }
            knots.sort((one, other) -> one == other ? 0 : isAhead(one.get(0), other.get(0)) ? -1 : 1);
        }

        List<List<List<Integer>>> clashes() {
            List<List<List<Integer>>> found = new ArrayList<>();
            for (List<Integer> knot : knots) {
                if (knot.size() > 1) {
                    found.add(sidesOf(knot));
                }
            }
            return found;
        }

        private List<List<Integer>> sidesOf(List<Integer> knot) {
            TreeMap<Integer, List<Integer>> sides = new TreeMap<>();
            for (int line : knot) {
                sides.computeIfAbsent(lines.get(line).by, k -> new ArrayList<>()).add(line);
            }
            for (List<Integer> side : sides.values()) {
                Collections.sort(side);
            }
            return new ArrayList<>(sides.values());
        }

        List<Integer> row() {
            List<Integer> row = new ArrayList<>();
            for (List<Integer> knot : knots) {
                for (List<Integer> side : sidesOf(knot)) {
                    row.addAll(side);
                }
            }
            return row;
        }

        List<Integer> words() {
            List<Integer> words = new ArrayList<>();
            for (int line : row()) {
                words.add(lines.get(line).word);
            }
            return words;
        }

        String joined(List<Integer> side) {
            List<String> words = new ArrayList<>();
            for (int line : side) {
                words.add("" + letter(lines.get(line).word));
            }
            return String.join("|", words);
        }

        String shown() {
            List<String> all = new ArrayList<>();
            for (List<Integer> knot : knots) {
                if (knot.size() == 1) {
                    all.add(joined(knot));
                } else {
                    List<String> sides = new ArrayList<>();
                    for (List<Integer> side : sidesOf(knot)) {
                        sides.add(joined(side));
                    }
                    all.add("<" + String.join("=", sides) + ">");
                }
            }
            return String.join("|", all);
        }

        int unsurePairs() {
            int found = 0;
            for (int one : live) {
                for (int other : live) {
                    if (one < other && isUnsure(one, other)) {
                        found++;
                    }
                }
            }
            return found;
        }

        int knotOf(int line) {
            for (int k = 0; k < knots.size(); k++) {
                if (knots.get(k).contains(line)) {
                    return k;
                }
            }
            throw new AssertionError("a live line without a knot");
        }

        boolean isSound() {
            for (int one : live) {
                for (int other : live) {
                    if (knotOf(one) < knotOf(other) && !isAhead(one, other)) {
                        return false;
                    }
                }
            }
            return true;
        }
    }

    private Look look(Iterable<Integer> changesOfSet, int part) {
        TreeSet<Integer> set = new TreeSet<>();
        for (int change : changesOfSet) {
            set.add(change);
        }
        String key = part + " " + set;
        Look look = looks.get(key);
        if (look == null) {
            look = new Look(set, part);
            looks.put(key, look);
        }
        return look;
    }

    private Look storeLook(int store, int part) {
        return look(stores.get(store), part);
    }

    private List<Integer> namers(int store, int part) {
        List<Integer> found = new ArrayList<>();
        for (int change : new TreeSet<>(stores.get(store))) {
            for (Edit edit : changes.get(change).edits) {
                if (edit.kind == '=' && changes.get(change).part == part) {
                    found.add(change);
                }
            }
        }
        return found;
    }

    private int name(int store, int part) {
        List<Integer> namers = namers(store, part);
        TreeSet<Integer> names = new TreeSet<>();
        for (int head : namers) {
            boolean isHead = true;
            for (int other : namers) {
                isHead &= !changes.get(other).edits.get(0).set.contains(head);
            }
            if (isHead) {
                names.add(changes.get(head).edits.get(0).one);
            }
        }
        return names.isEmpty() ? part : names.size() > 1 ? -2 : names.first();
    }

    // ---- section 3

    private void room(int newLines) {
        allowed(changes.size() < 24 && lines.size() + newLines <= 60);
    }

    private int newLine(int part, int word, int up, int down, int former) {
        lines.add(new Line(part, word, up, down, former, changes.size()));
        return lines.size() - 1;
    }

    private int recorded(int store, Change change) {
        changes.add(change);
        int number = changes.size() - 1;
        stores.get(store).add(number);
        changedOrder(store);
        return number;
    }

    private int longest(List<Integer> row, int i, int j) {
        int[][] table = new int[row.size() + 2][draft.size() + 2];
        for (int a = row.size() - 1; a >= i; a--) {
            for (int b = draft.size() - 1; b >= j; b--) {
                table[a][b] = Math.max(table[a + 1][b], table[a][b + 1]);
                if (row.get(a).equals(draft.get(b))) {
                    table[a][b] = Math.max(table[a][b], table[a + 1][b + 1] + 1);
                }
            }
        }
        return i > row.size() || j > draft.size() ? 0 : table[i][j];
    }

    /** The steps of the script as a text: S stays, O goes out, I comes in. */
    private String script(List<Integer> row) {
        StringBuilder steps = new StringBuilder();
        int i = 0;
        int j = 0;
        while (i < row.size() || j < draft.size()) {
            if (i < row.size() && j < draft.size() && row.get(i).equals(draft.get(j))) {
                steps.append('S');
                i++;
                j++;
            } else if (i < row.size()
                && (j >= draft.size() || longest(row, i + 1, j) >= longest(row, i, j + 1))) {
                steps.append('O');
                i++;
            } else {
                steps.append('I');
                j++;
            }
        }
        return steps.toString();
    }

    int record(int store, int part) {
        storePart(store, part);
        Look look = storeLook(store, part);
        if (!look.clashes().isEmpty() || look.words().equals(draft)) {
            return CANT;
        }
        String steps = script(look.words());
        room((int) steps.chars().filter(s -> s == 'I').count());
        List<Integer> row = look.row();
        Change change = new Change(part);
        int i = 0;
        int j = 0;
        int up = NONE;
        for (int step = 0; step < steps.length(); step++) {
            char kind = steps.charAt(step);
            if (kind == 'S') {
                up = row.get(i);
                i++;
                j++;
            } else if (kind == 'O') {
                change.edits.add(new Edit('-', row.get(i), NONE, null));
                i++;
            } else {
                int stay = steps.indexOf("S", step);
                int down = NONE;
                if (stay >= 0) {
                    long outs = steps.substring(step, stay).chars().filter(s -> s == 'O').count();
                    down = row.get(i + (int) outs);
                }
                up = newLine(part, draft.get(j), up, down, NONE);
                change.edits.add(new Edit('+', up, NONE, null));
                j++;
            }
        }
        return recorded(store, change);
    }

    int kill(int store, int line) {
        storeLine(store, line);
        int part = lines.get(line).part;
        if (!storeLook(store, part).live.contains(line)) {
            return CANT;
        }
        room(0);
        Change change = new Change(part);
        change.edits.add(new Edit('-', line, NONE, null));
        return recorded(store, change);
    }

    int revive(int store, int line) {
        storeLine(store, line);
        int part = lines.get(line).part;
        Look look = storeLook(store, part);
        if (!look.there.contains(line) || look.live.contains(line)) {
            return CANT;
        }
        room(0);
        TreeSet<Integer> ended = new TreeSet<>();
        for (int other : stores.get(store)) {
            for (Edit edit : changes.get(other).edits) {
                if (edit.kind == '-' && edit.one == line) {
                    ended.add(other);
                }
            }
        }
        Change change = new Change(part);
        change.edits.add(new Edit('^', line, NONE, ended));
        return recorded(store, change);
    }

    int tell(int store, int one, int other) {
        storeLine(store, one);
        storeLine(store, other);
        int part = lines.get(one).part;
        if (part != lines.get(other).part || !storeLook(store, part).isUnsure(one, other)) {
            return CANT;
        }
        room(0);
        Change change = new Change(part);
        change.edits.add(new Edit('>', one, other, null));
        return recorded(store, change);
    }

    int name(int store, int part, int word) {
        storePart(store, part);
        argument(in(word, 0, 25));
        if (name(store, part) == word) {
            return CANT;
        }
        room(0);
        Change change = new Change(part);
        change.edits.add(new Edit('=', word, NONE, new TreeSet<>(namers(store, part))));
        return recorded(store, change);
    }

    int settle(int store, int part, int clash, int side) {
        storePart(store, part);
        argument(clash >= 0 && side >= 0);
        Look look = storeLook(store, part);
        if (clash >= look.clashes().size() || side >= look.clashes().get(clash).size()) {
            return CANT;
        }
        room(0);
        Change change = new Change(part);
        List<List<Integer>> sides = look.clashes().get(clash);
        for (int k = 0; k < sides.size(); k++) {
            for (int line : sides.get(k)) {
                if (k != side) {
                    change.edits.add(new Edit('-', line, NONE, null));
                }
            }
        }
        return recorded(store, change);
    }

    int move(int store, int part, int from, int to, int place) {
        storePart(store, part);
        Look look = storeLook(store, part);
        List<Integer> row = look.row();
        index(in(from, 0, row.size() - 1) && in(to, from + 1, row.size()));
        List<Integer> block = new ArrayList<>(row.subList(from, to));
        List<Integer> others = new ArrayList<>(row);
        others.removeAll(block);
        argument(in(place, 0, others.size()));
        if (!look.clashes().isEmpty() || place == from) {
            return CANT;
        }
        room(block.size());
        Change change = new Change(part);
        for (int line : block) {
            change.edits.add(new Edit('-', line, NONE, null));
        }
        int up = place == 0 ? NONE : others.get(place - 1);
        int down = place == others.size() ? NONE : others.get(place);
        for (int line : block) {
            up = newLine(part, lines.get(line).word, up, down, line);
            change.edits.add(new Edit('+', up, NONE, null));
        }
        return recorded(store, change);
    }

    // ---- the draft

    int type(int place, int word) {
        index(in(place, 0, draft.size()));
        argument(in(word, 0, 25));
        allowed(draft.size() < 10);
        draft.add(place, word);
        return draft.size();
    }

    int erase(int place) {
        index(in(place, 0, draft.size() - 1));
        return draft.remove(place);
    }

    int load(int store, int part) {
        storePart(store, part);
        Look look = storeLook(store, part);
        if (!look.clashes().isEmpty() || look.row().size() > 10) {
            return CANT;
        }
        draft.clear();
        draft.addAll(look.words());
        return draft.size();
    }

    String draft() {
        StringBuilder text = new StringBuilder();
        for (int word : draft) {
            text.append(letter(word));
        }
        return text.toString();
    }

    // ---- section 4

    private void changedOrder(int store) {
        if (walkStore == store) {
            walkStore = NONE;
            walkAhead = NONE;
            walkPassed = NONE;
        }
    }

    private boolean putInto(List<Integer> order, int change) {
        if (order.contains(change) || !order.containsAll(hangs(change))) {
            return false;
        }
        order.add(change);
        return true;
    }

    private boolean takeFrom(List<Integer> order, int change) {
        if (!order.contains(change) || !Collections.disjoint(order, hangers(change))) {
            return false;
        }
        order.remove(Integer.valueOf(change));
        return true;
    }

    int put(int store, int change) {
        storeChange(store, change);
        if (!putInto(stores.get(store), change)) {
            return CANT;
        }
        changedOrder(store);
        return stores.get(store).size();
    }

    int take(int store, int change) {
        storeChange(store, change);
        if (!takeFrom(stores.get(store), change)) {
            return CANT;
        }
        changedOrder(store);
        return stores.get(store).size();
    }

    int putAll(int store, int change) {
        storeChange(store, change);
        TreeSet<Integer> all = hangs(change);
        all.add(change);
        int came = 0;
        for (int next : all) {
            if (put(store, next) != CANT) {
                came++;
            }
        }
        return came;
    }

    int takeAll(int store, int change) {
        storeChange(store, change);
        TreeSet<Integer> all = hangers(change);
        all.add(change);
        int went = 0;
        for (int next : all.descendingSet()) {
            if (take(store, next) != CANT) {
                went++;
            }
        }
        return went;
    }

    int swap(int store, int place) {
        index(in(store, 0, 2) && in(place, 0, stores.get(store).size() - 2));
        List<Integer> order = stores.get(store);
        if (hangs(order.get(place + 1)).contains(order.get(place))) {
            return CANT;
        }
        Collections.swap(order, place, place + 1);
        changedOrder(store);
        return order.get(place);
    }

    int pull(int store, int other) {
        index(in(store, 0, 2) && in(other, 0, 2));
        int came = 0;
        for (int change : new ArrayList<>(stores.get(other))) {
            if (put(store, change) != CANT) {
                came++;
            }
        }
        return came;
    }

    int tag(int store) {
        index(in(store, 0, 2));
        allowed(tags.size() < 4);
        tags.add(new ArrayList<>(stores.get(store)));
        return tags.size() - 1;
    }

    int asTagged(int store, int tag) {
        index(in(store, 0, 2) && in(tag, 0, tags.size() - 1));
        stores.set(store, new ArrayList<>(tags.get(tag)));
        changedOrder(store);
        return stores.get(store).size();
    }

    int walk(int store) {
        index(in(store, 0, 2));
        walkStore = store;
        walkAhead = 0;
        walkPassed = NONE;
        return stores.get(store).size();
    }

    int forth() {
        allowed(walkStore != NONE);
        if (walkAhead == stores.get(walkStore).size()) {
            return CANT;
        }
        walkPassed = stores.get(walkStore).get(walkAhead);
        walkAhead++;
        return walkPassed;
    }

    int back() {
        allowed(walkStore != NONE);
        if (walkAhead == 0) {
            return CANT;
        }
        walkAhead--;
        walkPassed = stores.get(walkStore).get(walkAhead);
        return walkPassed;
    }

    int drop() {
        allowed(walkStore != NONE);
        List<Integer> order = stores.get(walkStore);
        int place = order.indexOf(walkPassed);
        if (walkPassed == NONE || !takeFrom(order, walkPassed)) {
            return CANT;
        }
        walkAhead -= place < walkAhead ? 1 : 0;
        walkPassed = NONE;
        return order.size();
    }

    int knock() {
        return ++knocks;
    }

    // ---- questions

    String shown(int store, int part) {
        storePart(store, part);
        return storeLook(store, part).shown();
    }

    int ofPart(int store, int part, int what) {
        storePart(store, part);
        argument(in(what, 0, 5));
        Look look = storeLook(store, part);
        int inClashes = 0;
        for (List<Integer> knot : look.knots) {
            inClashes += knot.size() > 1 ? knot.size() : 0;
        }
        int[] answers = {look.live.size(), look.there.size() - look.live.size(), look.knots.size(),
            look.clashes().size(), inClashes, look.unsurePairs()};
        return answers[what];
    }

    int at(int store, int part, int place, int what) {
        storePart(store, part);
        Look look = storeLook(store, part);
        index(in(place, 0, look.row().size() - 1));
        argument(in(what, 0, 4));
        int line = look.row().get(place);
        int[] answers = {line, lines.get(line).word, lines.get(line).by, writer(line), look.knotOf(line)};
        return answers[what];
    }

    int sides(int store, int part, int clash) {
        storePart(store, part);
        argument(clash >= 0);
        List<List<List<Integer>>> clashes = storeLook(store, part).clashes();
        return clash < clashes.size() ? clashes.get(clash).size() : 0;
    }

    String side(int store, int part, int clash, int side) {
        storePart(store, part);
        argument(clash >= 0 && side >= 0);
        Look look = storeLook(store, part);
        boolean isOne = clash < look.clashes().size() && side < look.clashes().get(clash).size();
        return isOne ? look.joined(look.clashes().get(clash).get(side)) : "";
    }

    String blame(int store, int part) {
        storePart(store, part);
        List<String> all = new ArrayList<>();
        for (int line : storeLook(store, part).row()) {
            all.add("" + letter(lines.get(line).word) + writer(line));
        }
        return String.join(" ", all);
    }

    int nameOf(int store, int part) {
        storePart(store, part);
        return name(store, part);
    }

    int state(int store, int line) {
        storeLine(store, line);
        Look look = storeLook(store, lines.get(line).part);
        return look.live.contains(line) ? 2 : look.there.contains(line) ? 1 : 0;
    }

    boolean isAhead(int store, int one, int other) {
        storeLine(store, one);
        storeLine(store, other);
        return lines.get(one).part == lines.get(other).part
            && storeLook(store, lines.get(one).part).isAhead(one, other);
    }

    boolean isUnsure(int store, int one, int other) {
        return lines.get(one).part == lines.get(other).part
            && storeLook(store, lines.get(one).part).isUnsure(one, other);
    }

    boolean isAlike(int store, int other) {
        index(in(store, 0, 2) && in(other, 0, 2));
        return shown(store, 0).equals(shown(other, 0)) && shown(store, 1).equals(shown(other, 1));
    }

    int ofLine(int line, int what) {
        storeLine(0, line);
        argument(in(what, 0, 6));
        Line it = lines.get(line);
        int[] answers = {it.part, it.word, it.by, it.up, it.down, it.former, writer(line)};
        return answers[what];
    }

    int ofChange(int change, int what) {
        storeChange(0, change);
        argument(in(what, 0, 9));
        Change it = changes.get(change);
        int[] kinds = new int[128];
        int name = NONE;
        for (Edit edit : it.edits) {
            kinds[edit.kind]++;
            name = edit.kind == '=' ? edit.one : name;
        }
        int[] answers = {it.part, it.edits.size(), kinds['+'], kinds['-'], kinds['^'], kinds['>'], name,
            sum(hangsDirectly(change)), sum(hangs(change)), sum(hangers(change))};
        return answers[what];
    }

    String edits(int change) {
        storeChange(0, change);
        List<String> all = new ArrayList<>();
        for (Edit edit : changes.get(change).edits) {
            if (edit.kind == '>') {
                all.add(edit.one + ">" + edit.other);
            } else if (edit.kind == '=') {
                all.add("=" + letter(edit.one));
            } else {
                all.add("" + edit.kind + edit.one);
            }
        }
        return String.join(" ", all);
    }

    int ofStore(int store, int what) {
        index(in(store, 0, 2));
        argument(in(what, 0, 4));
        List<Integer> order = stores.get(store);
        int tips = 0;
        for (int change : order) {
            tips += Collections.disjoint(order, hangers(change)) ? 1 : 0;
        }
        int[] answers = {order.size(), sum(order), tips, order.isEmpty() ? NONE : order.get(0),
            order.isEmpty() ? NONE : order.get(order.size() - 1)};
        return answers[what];
    }

    int ordered(int store, int place) {
        index(in(store, 0, 2) && in(place, 0, stores.get(store).size() - 1));
        return stores.get(store).get(place);
    }

    int placeOf(int store, int change) {
        storeChange(store, change);
        return stores.get(store).indexOf(change);
    }

    int lacks(int store, int other) {
        index(in(store, 0, 2) && in(other, 0, 2));
        TreeSet<Integer> lacking = new TreeSet<>(stores.get(other));
        lacking.removeAll(stores.get(store));
        return sum(lacking);
    }

    int wouldClash(int store, int change) {
        storeChange(store, change);
        TreeSet<Integer> set = new TreeSet<>(stores.get(store));
        set.addAll(hangs(change));
        set.add(change);
        return look(set, 0).clashes().size() + look(set, 1).clashes().size();
    }

    int search(int store, int word, boolean isLooks) {
        index(in(store, 0, 2));
        argument(in(word, 0, 25));
        List<Integer> order = stores.get(store);
        int taken = 1;
        if (!isSeen(order, word)) {
            return isLooks ? taken : NONE;
        }
        int low = 0;
        int high = order.size();
        while (high > low + 1) {
            int middle = (low + high) / 2;
            taken++;
            if (isSeen(order.subList(0, middle), word)) {
                high = middle;
            } else {
                low = middle;
            }
        }
        return isLooks ? taken : order.get(high - 1);
    }

    private boolean isSeen(List<Integer> set, int word) {
        return look(set, 0).words().contains(word) || look(set, 1).words().contains(word);
    }

    int tagged(int tag, boolean isSet) {
        index(in(tag, 0, tags.size() - 1));
        return isSet ? sum(tags.get(tag)) : tags.get(tag).size();
    }

    int walked(int what) {
        argument(in(what, 0, 2));
        int[] answers = {walkStore, walkAhead, walkPassed};
        return answers[what];
    }

    int house(int what) {
        argument(in(what, 0, 4));
        int[] answers = {lines.size(), changes.size(), tags.size(), knocks, draft.size()};
        return answers[what];
    }

    private String shownOf(List<Integer> order) {
        return look(order, 0).shown() + "/" + look(order, 1).shown();
    }

    boolean isSound() {
        for (List<Integer> order : stores) {
            for (int k = 0; k < order.size(); k++) {
                if (!order.subList(0, k).containsAll(hangs(order.get(k)))) {
                    return false;
                }
            }
            List<Integer> copy = new ArrayList<>(order);
            for (int change = 0; change < changes.size(); change++) {
                if (takeFrom(copy, change)) {
                    putInto(copy, change);
                }
            }
            List<Integer> byNumber = new ArrayList<>(order);
            Collections.sort(byNumber);
            boolean isSame = shownOf(copy).equals(shownOf(order)) && shownOf(byNumber).equals(shownOf(order));
            if (!isSame || !look(order, 0).isSound() || !look(order, 1).isSound()) {
                return false;
            }
        }
        for (List<Integer> one : stores) {
            for (List<Integer> other : stores) {
                List<Integer> first = new ArrayList<>(one);
                List<Integer> second = new ArrayList<>(other);
                other.forEach(change -> putInto(first, change));
                one.forEach(change -> putInto(second, change));
                if (!shownOf(first).equals(shownOf(second))) {
                    return false;
                }
            }
        }
        return true;
    }

    long digest() {
        List<Long> values = new ArrayList<>();
        for (int what = 0; what <= 4; what++) {
            values.add((long) house(what));
        }
        for (int what = 0; what <= 2; what++) {
            values.add((long) walked(what));
        }
        for (int line = 0; line < lines.size(); line++) {
            for (int what = 0; what <= 6; what++) {
                values.add((long) ofLine(line, what));
            }
        }
        for (int change = 0; change < changes.size(); change++) {
            for (int what = 0; what <= 9; what++) {
                values.add((long) ofChange(change, what));
            }
            values.add((long) edits(change).length());
        }
        for (int store = 0; store < 3; store++) {
            addStore(values, store);
        }
        for (int tag = 0; tag < tags.size(); tag++) {
            values.add((long) tagged(tag, false));
            values.add((long) tagged(tag, true));
        }
        values.add(isSound() ? 1L : 0L);
        long d = 5902;
        for (long value : values) {
            d = d * 31 + value;
        }
        return d;
    }

    private void addStore(List<Long> values, int store) {
        for (int what = 0; what <= 4; what++) {
            values.add((long) ofStore(store, what));
        }
        for (int change : stores.get(store)) {
            values.add((long) change);
        }
        for (int part = 0; part < 2; part++) {
            for (int what = 0; what <= 5; what++) {
                values.add((long) ofPart(store, part, what));
            }
            values.add((long) shown(store, part).length());
            for (int place = 0; place < ofPart(store, part, 0); place++) {
                for (int what : Arrays.asList(0, 3, 4)) {
                    values.add((long) at(store, part, place, what));
                }
            }
            values.add((long) nameOf(store, part));
        }
        for (int other = 0; other < 3; other++) {
            values.add((long) lacks(store, other));
        }
        for (int change = 0; change < changes.size(); change++) {
            values.add((long) wouldClash(store, change));
        }
    }
}
