import java.util.Arrays;

/** Three stores that keep a text in two parts as changes. */
public final class Patchstore {
    private static final int NONE = -1;
    private static final int CANT = -9;
    private static final int NAMES_CLASH = -2;

    private static final int STORES = 3;
    private static final int PARTS = 2;
    private static final int WORDS = 26;
    private static final int MAX_WORDS = 10;
    private static final int MAX_LINES = 60;
    private static final int MAX_CHANGES = 24;
    private static final int MAX_TAGS = 4;

    // No change has more: each of its edits is of a line of its own, but for a lone TELL or NAME.
    private static final int MAX_EDITS = 60;
    // 60 edits of a sign, two figures and a blank.
    private static final int MAX_SIGNS = 240;
    private static final int MAX_LOOKS = 64;

    private static final int PART = 0;
    private static final int WORD = 1;
    private static final int MAKER = 2;
    private static final int UP = 3;
    private static final int DOWN = 4;
    private static final int FORMER = 5;
    private static final int WRITER = 6;
    private static final int LINE_FACTS = 7;

    private static final int IN = 0;
    private static final int OUT = 1;
    private static final int BACK = 2;
    private static final int TELL = 3;
    private static final int NAME = 4;
    private static final int CHANGE_FACTS = 10;

    // Behind the stores stand two copies, for questions that try something out.
    private static final int COPY = 3;
    private static final int OTHER_COPY = 4;
    private static final int ORDERS = 5;

    private final Lines lines;
    private final Changes changes;
    private final Draft draft;
    private final Script script;
    private final Order[] orders;
    private final View[] views;
    private final Order[] tags;
    private final Walk walk;
    private final Signs signs;
    private int tagCount;
    private int knocks;

    public Patchstore() {
        lines = new Lines();
        changes = new Changes(lines);
        draft = new Draft();
        script = new Script();
        walk = new Walk();
        signs = new Signs();
        orders = new Order[ORDERS];
        for (int k = 0; k < ORDERS; k++) {
            orders[k] = new Order();
        }
        views = new View[ORDERS * PARTS];
        for (int k = 0; k < ORDERS * PARTS; k++) {
            views[k] = new View(lines, changes, k % PARTS);
        }
        tags = new Order[MAX_TAGS];
        for (int k = 0; k < MAX_TAGS; k++) {
            tags[k] = new Order();
        }
    }

    // ---- the draft

    public int type(int place, int word) throws IndexOutOfBoundsException, IllegalArgumentException, IllegalStateException {
        if (place < 0 || place > draft.size()) {
            throw new IndexOutOfBoundsException();
        }
        needWord(word);
        if (draft.size() >= MAX_WORDS) {
            throw new IllegalStateException();
        }
        draft.insert(place, word);
        return draft.size();
    }

    public int erase(int place) throws IndexOutOfBoundsException {
        if (place < 0 || place >= draft.size()) {
            throw new IndexOutOfBoundsException();
        }
        return draft.removeAt(place);
    }

    public int load(int store, int part) throws IndexOutOfBoundsException {
        needPart(store, part);
        View view = view(store, part);
        if (view.clashes() > 0 || view.size() > MAX_WORDS) {
            return CANT;
        }
        draft.clear();
        for (int place = 0; place < view.size(); place++) {
            draft.insert(place, view.wordAt(place));
        }
        return draft.size();
    }

    public String draft() {
        signs.clear();
        for (int place = 0; place < draft.size(); place++) {
            signs.addWord(draft.wordAt(place));
        }
        return signs.text();
    }

    // ---- recording

    public int record(int store, int part) throws IndexOutOfBoundsException, IllegalStateException {
        needPart(store, part);
        View view = view(store, part);
        if (view.clashes() > 0 || hasDraftWords(view)) {
            return CANT;
        }
        script.compare(view, draft);
        needRoom(script.newLines());
        int change = changes.open(part);
        followScript(view, part, change);
        return keep(store, change);
    }

    public int kill(int store, int line) throws IndexOutOfBoundsException, IllegalStateException {
        needStore(store);
        needLine(line);
        int part = lines.fact(line, PART);
        if (!view(store, part).isLive(line)) {
            return CANT;
        }
        needRoom(0);
        int change = changes.open(part);
        changes.addOut(line);
        return keep(store, change);
    }

    public int revive(int store, int line) throws IndexOutOfBoundsException, IllegalStateException {
        needStore(store);
        needLine(line);
        int part = lines.fact(line, PART);
        if (!view(store, part).isDead(line)) {
            return CANT;
        }
        needRoom(0);
        int ended = changes.outsOf(line) & orders[store].set();
        int change = changes.open(part);
        changes.addBack(line, ended);
        return keep(store, change);
    }

    public int tell(int store, int one, int other) throws IndexOutOfBoundsException, IllegalStateException {
        needStore(store);
        needLine(one);
        needLine(other);
        int part = lines.fact(one, PART);
        if (!view(store, part).isUnsure(one, other)) {
            return CANT;
        }
        needRoom(0);
        int change = changes.open(part);
        changes.addTell(one, other);
        return keep(store, change);
    }

    public int name(int store, int part, int word) throws IndexOutOfBoundsException, IllegalArgumentException, IllegalStateException {
        needPart(store, part);
        needWord(word);
        int set = orders[store].set();
        if (changes.nameIn(set, part) == word) {
            return CANT;
        }
        needRoom(0);
        int followed = changes.namesIn(set, part);
        int change = changes.open(part);
        changes.addName(word, followed);
        return keep(store, change);
    }

    public int settle(int store, int part, int clash, int side) throws IndexOutOfBoundsException, IllegalArgumentException, IllegalStateException {
        needPart(store, part);
        needNotBelowZero(clash);
        needNotBelowZero(side);
        View view = view(store, part);
        if (side >= view.sidesOf(clash)) {
            return CANT;
        }
        needRoom(0);
        int change = changes.open(part);
        for (int place = 0; place < view.size(); place++) {
            if (view.clashAt(place) == clash && view.sideAt(place) != side) {
                changes.addOut(view.lineAt(place));
            }
        }
        return keep(store, change);
    }

    public int move(int store, int part, int from, int to, int place) throws IndexOutOfBoundsException, IllegalArgumentException, IllegalStateException {
        needPart(store, part);
        View view = view(store, part);
        if (from < 0 || from >= view.size() || to <= from || to > view.size()) {
            throw new IndexOutOfBoundsException();
        }
        int moved = to - from;
        if (place < 0 || place > view.size() - moved) {
            throw new IllegalArgumentException();
        }
        if (view.clashes() > 0 || place == from) {
            return CANT;
        }
        needRoom(moved);
        int change = changes.open(part);
        moveBlock(view, from, to, place, part, change);
        return keep(store, change);
    }

    // ---- putting in and out

    public int put(int store, int change) throws IndexOutOfBoundsException {
        needChange(store, change);
        Order order = orders[store];
        if (order.has(change) || (changes.hangsOn(change) & ~order.set()) != 0) {
            return CANT;
        }
        order.append(change);
        changed(store);
        return order.size();
    }

    public int take(int store, int change) throws IndexOutOfBoundsException {
        needChange(store, change);
        Order order = orders[store];
        if (!isTip(order, change)) {
            return CANT;
        }
        order.removeAt(order.find(change));
        changed(store);
        return order.size();
    }

    public int putAll(int store, int change) throws IndexOutOfBoundsException {
        needChange(store, change);
        Order order = orders[store];
        int coming = (changes.hangsOn(change) | 1 << change) & ~order.set();
        for (int next = 0; next < changes.count(); next++) {
            if (has(coming, next)) {
                order.append(next);
            }
        }
        if (coming != 0) {
            changed(store);
        }
        return Integer.bitCount(coming);
    }

    public int takeAll(int store, int change) throws IndexOutOfBoundsException {
        needChange(store, change);
        Order order = orders[store];
        int going = (changes.hangersOn(change) | 1 << change) & order.set();
        for (int next = changes.count() - 1; next >= 0; next--) {
            if (has(going, next)) {
                order.removeAt(order.find(next));
            }
        }
        if (going != 0) {
            changed(store);
        }
        return Integer.bitCount(going);
    }

    public int swap(int store, int place) throws IndexOutOfBoundsException {
        needStore(store);
        Order order = orders[store];
        if (place < 0 || place > order.size() - 2) {
            throw new IndexOutOfBoundsException();
        }
        int earlier = order.changeAt(place);
        int later = order.changeAt(place + 1);
        if (has(changes.hangsOn(later), earlier)) {
            return CANT;
        }
        order.exchange(place);
        changed(store);
        return later;
    }

    public int pull(int store, int other) throws IndexOutOfBoundsException {
        needStore(store);
        needStore(other);
        int came = orders[store].appendMissing(orders[other]);
        if (came > 0) {
            changed(store);
        }
        return came;
    }

    public int tag(int store) throws IndexOutOfBoundsException, IllegalStateException {
        needStore(store);
        if (tagCount >= MAX_TAGS) {
            throw new IllegalStateException();
        }
        tags[tagCount].copyFrom(orders[store]);
        tagCount++;
        return tagCount - 1;
    }

    public int asTagged(int store, int tag) throws IndexOutOfBoundsException {
        needStore(store);
        needTag(tag);
        orders[store].copyFrom(tags[tag]);
        changed(store);
        return orders[store].size();
    }

    public int walk(int store) throws IndexOutOfBoundsException {
        needStore(store);
        walk.start(store);
        return orders[store].size();
    }

    public int forth() throws IllegalStateException {
        int store = walk.store();
        needWalk(store);
        int next = orders[store].changeAt(walk.ahead());
        if (next == NONE) {
            return CANT;
        }
        walk.passForth(next);
        return next;
    }

    public int back() throws IllegalStateException {
        int store = walk.store();
        needWalk(store);
        int last = orders[store].changeAt(walk.ahead() - 1);
        if (last == NONE) {
            return CANT;
        }
        walk.passBack(last);
        return last;
    }

    public int drop() throws IllegalStateException {
        int store = walk.store();
        needWalk(store);
        Order order = orders[store];
        int passed = walk.passed();
        if (passed == NONE || !isTip(order, passed)) {
            return CANT;
        }
        int place = order.find(passed);
        order.removeAt(place);
        // Its own drop does not end the walk, so only the views follow here.
        refresh(store);
        walk.forget(place);
        return order.size();
    }

    public int knock() {
        knocks++;
        return knocks;
    }

    // ---- what a store shows

    public String shown(int store, int part) throws IndexOutOfBoundsException {
        needPart(store, part);
        return view(store, part).signs().text();
    }

    public int ofPart(int store, int part, int what) throws IndexOutOfBoundsException, IllegalArgumentException {
        needPart(store, part);
        needWhat(what, 5);
        return view(store, part).count(what);
    }

    public int at(int store, int part, int place, int what) throws IndexOutOfBoundsException, IllegalArgumentException {
        needPart(store, part);
        View view = view(store, part);
        if (place < 0 || place >= view.size()) {
            throw new IndexOutOfBoundsException();
        }
        needWhat(what, 4);
        return view.placeFact(place, what);
    }

    public int sides(int store, int part, int clash) throws IndexOutOfBoundsException, IllegalArgumentException {
        needPart(store, part);
        needNotBelowZero(clash);
        return view(store, part).sidesOf(clash);
    }

    public String side(int store, int part, int clash, int side) throws IndexOutOfBoundsException, IllegalArgumentException {
        needPart(store, part);
        needNotBelowZero(clash);
        needNotBelowZero(side);
        View view = view(store, part);
        signs.clear();
        for (int place = 0; place < view.size(); place++) {
            if (view.clashAt(place) == clash && view.sideAt(place) == side) {
                signs.addBetween('|');
                signs.addWord(view.wordAt(place));
            }
        }
        return signs.text();
    }

    public String blame(int store, int part) throws IndexOutOfBoundsException {
        needPart(store, part);
        View view = view(store, part);
        signs.clear();
        for (int place = 0; place < view.size(); place++) {
            signs.addBetween(' ');
            signs.addWord(view.wordAt(place));
            signs.addNumber(lines.fact(view.lineAt(place), WRITER));
        }
        return signs.text();
    }

    public int nameOf(int store, int part) throws IndexOutOfBoundsException {
        needPart(store, part);
        return changes.nameIn(orders[store].set(), part);
    }

    public int state(int store, int line) throws IndexOutOfBoundsException {
        needStore(store);
        needLine(line);
        View view = view(store, lines.fact(line, PART));
        if (view.isLive(line)) {
            return 2;
        }
        return view.isDead(line) ? 1 : 0;
    }

    public boolean isAhead(int store, int one, int other) throws IndexOutOfBoundsException {
        needStore(store);
        needLine(one);
        needLine(other);
        return view(store, lines.fact(one, PART)).leads(one, other);
    }

    public boolean isAlike(int store, int other) throws IndexOutOfBoundsException {
        needStore(store);
        needStore(other);
        return showSame(store, other);
    }

    // ---- what is asked of changes and lines

    public int ofLine(int line, int what) throws IndexOutOfBoundsException, IllegalArgumentException {
        needLine(line);
        needWhat(what, LINE_FACTS - 1);
        return lines.fact(line, what);
    }

    public int ofChange(int change, int what) throws IndexOutOfBoundsException, IllegalArgumentException {
        needChange(0, change);
        needWhat(what, CHANGE_FACTS - 1);
        return changes.fact(change, what);
    }

    public String edits(int change) throws IndexOutOfBoundsException {
        needChange(0, change);
        changes.writeEdits(change, signs);
        return signs.text();
    }

    public int ofStore(int store, int what) throws IndexOutOfBoundsException, IllegalArgumentException {
        needStore(store);
        needWhat(what, 4);
        Order order = orders[store];
        switch (what) {
            case 0:
                return order.size();
            case 1:
                return order.set();
            case 2:
                return countTips(order);
            case 3:
                return order.changeAt(0);
            default:
                return order.changeAt(order.size() - 1);
        }
    }

    public int ordered(int store, int place) throws IndexOutOfBoundsException {
        needStore(store);
        int change = orders[store].changeAt(place);
        if (change == NONE) {
            throw new IndexOutOfBoundsException();
        }
        return change;
    }

    public int placeOf(int store, int change) throws IndexOutOfBoundsException {
        needChange(store, change);
        return orders[store].find(change);
    }

    public int lacks(int store, int other) throws IndexOutOfBoundsException {
        needStore(store);
        needStore(other);
        return orders[other].set() & ~orders[store].set();
    }

    public int wouldClash(int store, int change) throws IndexOutOfBoundsException {
        needChange(store, change);
        int set = orders[store].set();
        int coming = (changes.hangsOn(change) | 1 << change) & ~set;
        int clashes = 0;
        for (int part = 0; part < PARTS; part++) {
            View view = view(coming == 0 ? store : COPY, part);
            view.showSet(set | coming);
            clashes += view.clashes();
        }
        return clashes;
    }

    public int search(int store, int word, boolean isLooks) throws IndexOutOfBoundsException, IllegalArgumentException {
        needStore(store);
        needWord(word);
        Order order = orders[store];
        int looks = 1;
        int low = 0;
        int high = order.size();
        if (!isThere(word, order.set())) {
            return isLooks ? looks : NONE;
        }
        for (; high > low + 1 && looks < MAX_LOOKS; looks++) {
            int middle = (low + high) / 2;
            if (isThere(word, order.setOfFirst(middle))) {
                high = middle;
            } else {
                low = middle;
            }
        }
        return isLooks ? looks : order.changeAt(high - 1);
    }

    public int tagged(int tag, boolean isSet) throws IndexOutOfBoundsException {
        needTag(tag);
        return isSet ? tags[tag].set() : tags[tag].size();
    }

    public int walked(int what) throws IllegalArgumentException {
        needWhat(what, 2);
        switch (what) {
            case 0:
                return walk.store();
            case 1:
                return walk.ahead();
            default:
                return walk.passed();
        }
    }

    public int house(int what) throws IllegalArgumentException {
        needWhat(what, 4);
        switch (what) {
            case 0:
                return lines.count();
            case 1:
                return changes.count();
            case 2:
                return tagCount;
            case 3:
                return knocks;
            default:
                return draft.size();
        }
    }

    public boolean isSound() {
        for (int store = 0; store < STORES; store++) {
            if (!isStoreSound(store)) {
                return false;
            }
        }
        for (int store = 0; store < STORES; store++) {
            for (int other = store + 1; other < STORES; other++) {
                if (!isPullSound(store, other)) {
                    return false;
                }
            }
        }
        return true;
    }

    public long digest() {
        long d = 5902;
        for (int what = 0; what <= 4; what++) {
            d = mixed(d, house(what));
        }
        for (int what = 0; what <= 2; what++) {
            d = mixed(d, walked(what));
        }
        for (int line = 0; line < lines.count(); line++) {
            for (int what = 0; what < LINE_FACTS; what++) {
                d = mixed(d, lines.fact(line, what));
            }
        }
        for (int change = 0; change < changes.count(); change++) {
            for (int what = 0; what < CHANGE_FACTS; what++) {
                d = mixed(d, changes.fact(change, what));
            }
            changes.writeEdits(change, signs);
            d = mixed(d, signs.length());
        }
        for (int store = 0; store < STORES; store++) {
            d = mixedStore(d, store);
        }
        for (int tag = 0; tag < tagCount; tag++) {
            d = mixed(d, tags[tag].size());
            d = mixed(d, tags[tag].set());
        }
        return mixed(d, isSound() ? 1 : 0);
    }

    // ---- what the digest is made of

    private static long mixed(long d, long value) {
        return d * 31 + value;
    }

    private long mixedStore(long start, int store) {
        long d = start;
        for (int what = 0; what <= 4; what++) {
            d = mixed(d, ofStore(store, what));
        }
        for (int place = 0; place < orders[store].size(); place++) {
            d = mixed(d, orders[store].changeAt(place));
        }
        for (int part = 0; part < PARTS; part++) {
            d = mixedPart(d, store, part);
        }
        for (int other = 0; other < STORES; other++) {
            d = mixed(d, lacks(store, other));
        }
        for (int change = 0; change < changes.count(); change++) {
            d = mixed(d, wouldClash(store, change));
        }
        return d;
    }

    private long mixedPart(long start, int store, int part) {
        View view = view(store, part);
        long d = start;
        for (int what = 0; what <= 5; what++) {
            d = mixed(d, view.count(what));
        }
        d = mixed(d, view.signs().length());
        for (int place = 0; place < view.size(); place++) {
            d = mixed(d, view.placeFact(place, 0));
            d = mixed(d, view.placeFact(place, 3));
            d = mixed(d, view.placeFact(place, 4));
        }
        return mixed(d, nameOf(store, part));
    }

    // ---- what soundness is made of

    private boolean isStoreSound(int store) {
        Order order = orders[store];
        if (!isInOrder(order)) {
            return false;
        }
        for (int part = 0; part < PARTS; part++) {
            if (!view(store, part).isInKnots()) {
                return false;
            }
        }
        Order copy = orders[COPY];
        copy.copyFrom(order);
        retakeTips(copy);
        refresh(COPY);
        if (!showSame(COPY, store)) {
            return false;
        }
        copy.copyByNumber(order);
        refresh(COPY);
        return showSame(COPY, store);
    }

    private boolean isInOrder(Order order) {
        int passed = 0;
        for (int place = 0; place < order.size(); place++) {
            int change = order.changeAt(place);
            if ((changes.hangsOn(change) & ~passed) != 0) {
                return false;
            }
            passed |= 1 << change;
        }
        return true;
    }

    private void retakeTips(Order order) {
        for (int change = 0; change < changes.count(); change++) {
            if (isTip(order, change)) {
                order.removeAt(order.find(change));
                order.append(change);
            }
        }
    }

    private boolean isPullSound(int store, int other) {
        orders[COPY].copyFrom(orders[store]);
        orders[COPY].appendMissing(orders[other]);
        orders[OTHER_COPY].copyFrom(orders[other]);
        orders[OTHER_COPY].appendMissing(orders[store]);
        refresh(COPY);
        refresh(OTHER_COPY);
        return showSame(COPY, OTHER_COPY);
    }

    // ---- looking at stores

    private View view(int order, int part) {
        return views[order * PARTS + part];
    }

    private void refresh(int order) {
        for (int part = 0; part < PARTS; part++) {
            view(order, part).showSet(orders[order].set());
        }
    }

    private void changed(int store) {
        refresh(store);
        walk.leave(store);
    }

    private boolean showSame(int one, int other) {
        for (int part = 0; part < PARTS; part++) {
            if (!view(one, part).signs().isSame(view(other, part).signs())) {
                return false;
            }
        }
        return true;
    }

    private boolean isTip(Order order, int change) {
        return order.has(change) && (changes.hangersOn(change) & order.set()) == 0;
    }

    private int countTips(Order order) {
        int tips = 0;
        for (int change = 0; change < changes.count(); change++) {
            if (isTip(order, change)) {
                tips++;
            }
        }
        return tips;
    }

    private boolean isThere(int word, int set) {
        long live = changes.linesIn(set) & ~changes.deadIn(set);
        for (int line = 0; line < lines.count(); line++) {
            if (has(live, line) && lines.fact(line, WORD) == word) {
                return true;
            }
        }
        return false;
    }

    // ---- making changes

    private int keep(int store, int change) {
        orders[store].append(change);
        changed(store);
        return change;
    }

    private boolean hasDraftWords(View view) {
        if (view.size() != draft.size()) {
            return false;
        }
        for (int place = 0; place < view.size(); place++) {
            if (view.wordAt(place) != draft.wordAt(place)) {
                return false;
            }
        }
        return true;
    }

    private void followScript(View view, int part, int change) {
        int up = NONE;
        int i = 0;
        int j = 0;
        int most = view.size() + draft.size();
        for (int step = 0; step < most; step++) {
            if (script.isStay(i, j)) {
                up = view.lineAt(i);
                i++;
                j++;
            } else if (script.isOut(i, j)) {
                changes.addOut(view.lineAt(i));
                i++;
            } else if (j < draft.size()) {
                // A word comes in ahead of a line only if LONGEST needs that line, so it is the next that stays.
                int nextStay = view.lineAt(i);
                up = lines.add(part, draft.wordAt(j), up, nextStay, NONE, change);
                changes.addIn(up);
                j++;
            }
        }
    }

    private void moveBlock(View view, int from, int to, int place, int part, int change) {
        int behind = place < from ? place : place + to - from;
        int ahead = place <= from ? place - 1 : place - 1 + to - from;
        int up = view.lineAt(ahead);
        int down = view.lineAt(behind);
        for (int k = from; k < to; k++) {
            changes.addOut(view.lineAt(k));
        }
        for (int k = from; k < to; k++) {
            up = lines.add(part, view.wordAt(k), up, down, view.lineAt(k), change);
            changes.addIn(up);
        }
    }

    // ---- what calls need

    private static boolean has(long set, int k) {
        return k >= 0 && k < 64 && (set >>> k & 1L) != 0;
    }

    private static void needStore(int store) {
        if (store < 0 || store >= STORES) {
            throw new IndexOutOfBoundsException();
        }
    }

    private static void needPart(int store, int part) {
        needStore(store);
        if (part < 0 || part >= PARTS) {
            throw new IndexOutOfBoundsException();
        }
    }

    private void needLine(int line) {
        if (line < 0 || line >= lines.count()) {
            throw new IndexOutOfBoundsException();
        }
    }

    private void needChange(int store, int change) {
        needStore(store);
        if (change < 0 || change >= changes.count()) {
            throw new IndexOutOfBoundsException();
        }
    }

    private void needTag(int tag) {
        if (tag < 0 || tag >= tagCount) {
            throw new IndexOutOfBoundsException();
        }
    }

    private static void needWord(int word) {
        if (word < 0 || word >= WORDS) {
            throw new IllegalArgumentException();
        }
    }

    private static void needWhat(int what, int last) {
        if (what < 0 || what > last) {
            throw new IllegalArgumentException();
        }
    }

    private static void needNotBelowZero(int number) {
        if (number < 0) {
            throw new IllegalArgumentException();
        }
    }

    private static void needWalk(int store) {
        if (store < 0 || store >= STORES) {
            throw new IllegalStateException();
        }
    }

    private void needRoom(int newLines) {
        if (changes.count() >= MAX_CHANGES || lines.count() + newLines > MAX_LINES) {
            throw new IllegalStateException();
        }
    }

    /** A text in the making; kept and used again, so that asking for its length makes no object. */
    private static final class Signs {
        private final char[] row = new char[MAX_SIGNS];
        private int length;

        void clear() {
            length = 0;
        }

        int length() {
            return length;
        }

        void add(char sign) {
            if (length < MAX_SIGNS) {
                row[length] = sign;
                length++;
            }
        }

        void addBetween(char sign) {
            if (length > 0) {
                add(sign);
            }
        }

        void addWord(int word) {
            add((char) ('a' + word));
        }

        void addNumber(int number) {
            if (number >= 10) {
                add((char) ('0' + number / 10));
            }
            add((char) ('0' + number % 10));
        }

        boolean isSame(Signs other) {
            if (length != other.length) {
                return false;
            }
            for (int k = 0; k < length; k++) {
                if (row[k] != other.row[k]) {
                    return false;
                }
            }
            return true;
        }

        String text() {
            StringBuilder text = new StringBuilder();
            for (int k = 0; k < length; k++) {
                text.append(row[k]);
            }
            return text.toString();
        }
    }

    private static final class Draft {
        private final int[] words = new int[MAX_WORDS];
        private int size;

        int size() {
            return size;
        }

        int wordAt(int place) {
            return place >= 0 && place < size ? words[place] : NONE;
        }

        void clear() {
            size = 0;
        }

        void insert(int place, int word) {
            if (place < 0 || place > size || size >= MAX_WORDS) {
                return;
            }
            for (int k = size; k > place; k--) {
                words[k] = words[k - 1];
            }
            words[place] = word;
            size++;
        }

        int removeAt(int place) {
            int word = wordAt(place);
            if (word != NONE) {
                size--;
                for (int k = place; k < size; k++) {
                    words[k] = words[k + 1];
                }
            }
            return word;
        }
    }

    /** All LINES ever put in, each with what is asked of it, in the numbers of ofLine(). */
    private static final class Lines {
        private final int[] facts = new int[MAX_LINES * LINE_FACTS];
        private int count;

        int count() {
            return count;
        }

        int fact(int line, int what) {
            if (line < 0 || line >= count || what < 0 || what >= LINE_FACTS) {
                return NONE;
            }
            return facts[line * LINE_FACTS + what];
        }

        int add(int part, int word, int up, int down, int former, int maker) {
            if (count >= MAX_LINES) {
                return NONE;
            }
            int start = count * LINE_FACTS;
            facts[start + PART] = part;
            facts[start + WORD] = word;
            facts[start + MAKER] = maker;
            facts[start + UP] = up;
            facts[start + DOWN] = down;
            facts[start + FORMER] = former;
            facts[start + WRITER] = former == NONE ? maker : fact(former, WRITER);
            count++;
            return count - 1;
        }

        void addSteps(long there, long[] below) {
            for (int line = 0; line < count && line < below.length; line++) {
                if ((there >>> line & 1L) != 0) {
                    int up = fact(line, UP);
                    if (up >= 0 && up < below.length) {
                        below[up] |= 1L << line;
                    }
                    int down = fact(line, DOWN);
                    if (down != NONE) {
                        below[line] |= 1L << down;
                    }
                }
            }
        }
    }

    /** All CHANGES ever recorded; the EDITS of each stand in a stretch of MAX_EDITS of its own. */
    private static final class Changes {
        private final Lines lines;
        private final int[] parts = new int[MAX_CHANGES];
        private final int[] directs = new int[MAX_CHANGES];
        private final int[] hangs = new int[MAX_CHANGES];
        private final int[] hangers = new int[MAX_CHANGES];
        private final int[] names = new int[MAX_CHANGES];
        private final int[] follows = new int[MAX_CHANGES];
        private final long[] puts = new long[MAX_CHANGES];
        private final int[] sizes = new int[MAX_CHANGES];
        private final int[] kinds = new int[MAX_CHANGES * MAX_EDITS];
        private final int[] ones = new int[MAX_CHANGES * MAX_EDITS];
        private final int[] others = new int[MAX_CHANGES * MAX_EDITS];
        private final int[] partSets = new int[PARTS];
        private final int[] outs = new int[MAX_LINES];
        private final int[] openOuts = new int[MAX_LINES];
        private int count;

        Changes(Lines lines) {
            this.lines = lines;
        }

        int count() {
            return count;
        }

        private boolean isChange(int change) {
            return change >= 0 && change < count;
        }

        int setOfPart(int part) {
            return part >= 0 && part < PARTS ? partSets[part] : 0;
        }

        int hangsOn(int change) {
            return isChange(change) ? hangs[change] : 0;
        }

        int hangersOn(int change) {
            return isChange(change) ? hangers[change] : 0;
        }

        /** The set of the CHANGES that have an OUT of a LINE. */
        int outsOf(int line) {
            return line >= 0 && line < MAX_LINES ? outs[line] : 0;
        }

        /** What is added from then on are the EDITS of this CHANGE. */
        int open(int part) {
            if (count >= MAX_CHANGES || part < 0 || part >= PARTS) {
                return NONE;
            }
            parts[count] = part;
            names[count] = NONE;
            partSets[part] |= 1 << count;
            count++;
            return count - 1;
        }

        void addIn(int line) {
            int change = count - 1;
            if (change >= 0 && line >= 0) {
                puts[change] |= 1L << line;
                addEdit(IN, line, NONE);
                hangOnMaker(lines.fact(line, UP));
                hangOnMaker(lines.fact(line, DOWN));
            }
        }

        void addOut(int line) {
            int change = count - 1;
            if (change >= 0 && line >= 0 && line < MAX_LINES) {
                outs[line] |= 1 << change;
                addEdit(OUT, line, NONE);
                hangOnMaker(line);
            }
        }

        void addBack(int line, int ended) {
            addEdit(BACK, line, ended);
            hangOnMaker(line);
            hangOnAll(ended);
        }

        void addTell(int one, int other) {
            addEdit(TELL, one, other);
            hangOnMaker(one);
            hangOnMaker(other);
        }

        void addName(int word, int followed) {
            int change = count - 1;
            if (change >= 0) {
                names[change] = word;
                follows[change] = followed;
                addEdit(NAME, word, NONE);
                hangOnAll(followed);
            }
        }

        private void addEdit(int kind, int one, int other) {
            int change = count - 1;
            if (change < 0 || sizes[change] >= MAX_EDITS) {
                return;
            }
            int edit = change * MAX_EDITS + sizes[change];
            kinds[edit] = kind;
            ones[edit] = one;
            others[edit] = other;
            sizes[change]++;
        }

        private void hangOnMaker(int line) {
            int maker = lines.fact(line, MAKER);
            if (maker != NONE) {
                hangOnAll(1 << maker);
            }
        }

        private void hangOnAll(int set) {
            int last = count - 1;
            for (int change = 0; change < last; change++) {
                if ((set >>> change & 1) != 0) {
                    directs[last] |= 1 << change;
                    hangs[last] |= 1 << change | hangs[change];
                }
            }
            for (int change = 0; change < last; change++) {
                if ((hangs[last] >>> change & 1) != 0) {
                    hangers[change] |= 1 << last;
                }
            }
        }

        /** Numbered as in ofChange(). */
        int fact(int change, int what) {
            if (!isChange(change)) {
                return NONE;
            }
            switch (what) {
                case 0:
                    return parts[change];
                case 1:
                    return sizes[change];
                case 6:
                    return names[change];
                case 7:
                    return directs[change];
                case 8:
                    return hangs[change];
                case 9:
                    return hangers[change];
                default:
                    return countKind(change, what - 2);
            }
        }

        private int countKind(int change, int kind) {
            int found = 0;
            int start = change * MAX_EDITS;
            for (int edit = start; edit < start + sizes[change]; edit++) {
                if (kinds[edit] == kind) {
                    found++;
                }
            }
            return found;
        }

        void writeEdits(int change, Signs signs) {
            signs.clear();
            if (!isChange(change)) {
                return;
            }
            int start = change * MAX_EDITS;
            for (int edit = start; edit < start + sizes[change]; edit++) {
                signs.addBetween(' ');
                writeEdit(edit, signs);
            }
        }

        private void writeEdit(int edit, Signs signs) {
            switch (kinds[edit]) {
                case IN:
                    signs.add('+');
                    signs.addNumber(ones[edit]);
                    break;
                case OUT:
                    signs.add('-');
                    signs.addNumber(ones[edit]);
                    break;
                case BACK:
                    signs.add('^');
                    signs.addNumber(ones[edit]);
                    break;
                case TELL:
                    signs.addNumber(ones[edit]);
                    signs.add('>');
                    signs.addNumber(others[edit]);
                    break;
                default:
                    signs.add('=');
                    signs.addWord(ones[edit]);
                    break;
            }
        }

        /** The set of those in a set that have a NAME of a PART. */
        int namesIn(int set, int part) {
            int named = 0;
            for (int change = 0; change < count; change++) {
                if ((set >>> change & 1) != 0 && parts[change] == part && names[change] != NONE) {
                    named |= 1 << change;
                }
            }
            return named;
        }

        int nameIn(int set, int part) {
            int named = namesIn(set, part);
            int heads = named;
            for (int change = 0; change < count; change++) {
                if ((named >>> change & 1) != 0) {
                    heads &= ~follows[change];
                }
            }
            int name = NONE;
            for (int change = 0; change < count; change++) {
                if ((heads >>> change & 1) != 0) {
                    if (name != NONE && name != names[change]) {
                        return NAMES_CLASH;
                    }
                    name = names[change];
                }
            }
            return name == NONE ? part : name;
        }

        /** The set of the LINES that are THERE with a set of CHANGES. */
        long linesIn(int set) {
            long there = 0;
            for (int change = 0; change < count; change++) {
                if ((set >>> change & 1) != 0) {
                    there |= puts[change];
                }
            }
            return there;
        }

        /** The set of the LINES that are DEAD with a set of CHANGES. */
        long deadIn(int set) {
            for (int line = 0; line < MAX_LINES; line++) {
                openOuts[line] = outs[line] & set;
            }
            for (int change = 0; change < count; change++) {
                if ((set >>> change & 1) != 0) {
                    endOuts(change);
                }
            }
            long dead = 0;
            for (int line = 0; line < MAX_LINES; line++) {
                if (openOuts[line] != 0) {
                    dead |= 1L << line;
                }
            }
            return dead;
        }

        private void endOuts(int change) {
            int start = change * MAX_EDITS;
            for (int edit = start; edit < start + sizes[change]; edit++) {
                int line = ones[edit];
                if (kinds[edit] == BACK && line >= 0 && line < MAX_LINES) {
                    openOuts[line] &= ~others[edit];
                }
            }
        }

        /** Adds the STEPS of the TELLS of a set of CHANGES. */
        void addSteps(int set, long[] below) {
            for (int change = 0; change < count; change++) {
                int start = change * MAX_EDITS;
                int end = (set >>> change & 1) != 0 ? start + sizes[change] : start;
                for (int edit = start; edit < end; edit++) {
                    int one = ones[edit];
                    if (kinds[edit] == TELL && one >= 0 && one < below.length) {
                        below[one] |= 1L << others[edit];
                    }
                }
            }
        }
    }

    /** A row of CHANGES as they came, with their set. */
    private static final class Order {
        private final int[] row = new int[MAX_CHANGES];
        private int size;
        private int set;

        int size() {
            return size;
        }

        int set() {
            return set;
        }

        boolean has(int change) {
            return change >= 0 && change < MAX_CHANGES && (set >>> change & 1) != 0;
        }

        int changeAt(int place) {
            return place >= 0 && place < size ? row[place] : NONE;
        }

        int find(int change) {
            for (int place = 0; place < size; place++) {
                if (row[place] == change) {
                    return place;
                }
            }
            return NONE;
        }

        int setOfFirst(int many) {
            int first = 0;
            for (int place = 0; place < many && place < size; place++) {
                first |= 1 << row[place];
            }
            return first;
        }

        void append(int change) {
            if (size < MAX_CHANGES && change >= 0 && change < MAX_CHANGES && !has(change)) {
                row[size] = change;
                set |= 1 << change;
                size++;
            }
        }

        int appendMissing(Order other) {
            int before = size;
            for (int place = 0; place < other.size; place++) {
                append(other.row[place]);
            }
            return size - before;
        }

        void removeAt(int place) {
            if (place < 0 || place >= size) {
                return;
            }
            set &= ~(1 << row[place]);
            size--;
            for (int k = place; k < size; k++) {
                row[k] = row[k + 1];
            }
        }

        void exchange(int place) {
            if (place < 0 || place + 1 >= size) {
                return;
            }
            int earlier = row[place];
            row[place] = row[place + 1];
            row[place + 1] = earlier;
        }

        void copyFrom(Order other) {
            size = 0;
            set = 0;
            appendMissing(other);
        }

        void copyByNumber(Order other) {
            size = 0;
            set = 0;
            for (int change = 0; change < MAX_CHANGES; change++) {
                if (other.has(change)) {
                    append(change);
                }
            }
        }
    }

    private static final class Walk {
        private int store = NONE;
        private int ahead = NONE;
        private int passed = NONE;

        int store() {
            return store;
        }

        int ahead() {
            return ahead;
        }

        int passed() {
            return passed;
        }

        void start(int newStore) {
            store = newStore;
            ahead = 0;
            passed = NONE;
        }

        void leave(int changedStore) {
            if (store == changedStore) {
                store = NONE;
                ahead = NONE;
                passed = NONE;
            }
        }

        void passForth(int change) {
            ahead++;
            passed = change;
        }

        void passBack(int change) {
            ahead--;
            passed = change;
        }

        /** The CHANGE that was PASSED went from its place, which may be on either hand. */
        void forget(int place) {
            if (place < ahead) {
                ahead--;
            }
            passed = NONE;
        }
    }

    /** How a ROW becomes the DRAFT. */
    private static final class Script {
        private final int[] rowWords = new int[MAX_LINES];
        private final int[] draftWords = new int[MAX_WORDS];
        private final int[] longest = new int[(MAX_LINES + 1) * (MAX_WORDS + 1)];
        private int rowSize;
        private int draftSize;

        void compare(View view, Draft draft) {
            rowSize = Math.min(view.size(), MAX_LINES);
            for (int i = 0; i < rowSize; i++) {
                rowWords[i] = view.wordAt(i);
            }
            draftSize = Math.min(draft.size(), MAX_WORDS);
            for (int j = 0; j < draftSize; j++) {
                draftWords[j] = draft.wordAt(j);
            }
            for (int i = rowSize; i >= 0; i--) {
                for (int j = draftSize; j >= 0; j--) {
                    longest[i * (MAX_WORDS + 1) + j] = longestFrom(i, j);
                }
            }
        }

        private int longestFrom(int i, int j) {
            if (i >= rowSize || j >= draftSize) {
                return 0;
            }
            if (isStay(i, j)) {
                return longestAt(i + 1, j + 1) + 1;
            }
            return Math.max(longestAt(i + 1, j), longestAt(i, j + 1));
        }

        private int longestAt(int i, int j) {
            if (i < 0 || i > rowSize || j < 0 || j > draftSize) {
                return 0;
            }
            return longest[i * (MAX_WORDS + 1) + j];
        }

        int newLines() {
            return draftSize - longestAt(0, 0);
        }

        boolean isStay(int i, int j) {
            return i >= 0 && i < rowSize && j >= 0 && j < draftSize && rowWords[i] == draftWords[j];
        }

        /** Asked only of steps that are no stay. */
        boolean isOut(int i, int j) {
            return i < rowSize && (j >= draftSize || longestAt(i + 1, j) >= longestAt(i, j + 1));
        }
    }

    /** How one PART is shown with a set of CHANGES. */
    private static final class View {
        private final Lines lines;
        private final Changes changes;
        private final int part;
        private final long[] below = new long[MAX_LINES];
        private final long[] above = new long[MAX_LINES];
        private final long[] unsure = new long[MAX_LINES];
        private final int[] row = new int[MAX_LINES];
        private final int[] knotAts = new int[MAX_LINES];
        private final int[] clashAts = new int[MAX_LINES];
        private final int[] sideAts = new int[MAX_LINES];
        private final Signs signs = new Signs();
        private boolean isWritten;
        private int seen;
        private long there;
        private long live;
        private int size;
        private int knots;
        private int clashes;

        View(Lines lines, Changes changes, int part) {
            this.lines = lines;
            this.changes = changes;
            this.part = part;
        }

        int size() {
            return size;
        }

        int clashes() {
            return clashes;
        }

        int lineAt(int place) {
            return place >= 0 && place < size ? row[place] : NONE;
        }

        int wordAt(int place) {
            return lines.fact(lineAt(place), WORD);
        }

        int clashAt(int place) {
            return place >= 0 && place < size ? clashAts[place] : NONE;
        }

        int sideAt(int place) {
            return place >= 0 && place < size ? sideAts[place] : NONE;
        }

        boolean isLive(int line) {
            return has(live, line);
        }

        boolean isDead(int line) {
            return has(there & ~live, line);
        }

        boolean isUnsure(int one, int other) {
            return one >= 0 && one < MAX_LINES && has(unsure[one], other);
        }

        boolean leads(int one, int other) {
            return one >= 0 && one < MAX_LINES && has(below[one] & ~above[one], other);
        }

        /** Numbered as in ofPart(). */
        int count(int what) {
            switch (what) {
                case 0:
                    return Long.bitCount(live);
                case 1:
                    return Long.bitCount(there & ~live);
                case 2:
                    return knots;
                case 3:
                    return clashes;
                case 4:
                    return countClashLines();
                default:
                    return countUnsure();
            }
        }

        private int countClashLines() {
            int found = 0;
            for (int place = 0; place < size; place++) {
                if (clashAt(place) != NONE) {
                    found++;
                }
            }
            return found;
        }

        private int countUnsure() {
            int found = 0;
            for (int line = 0; line < MAX_LINES; line++) {
                found += Long.bitCount(unsure[line]);
            }
            return found / 2;
        }

        /** Numbered as in at(). */
        int placeFact(int place, int what) {
            if (place < 0 || place >= size) {
                return NONE;
            }
            switch (what) {
                case 0:
                    return row[place];
                case 1:
                    return lines.fact(row[place], WORD);
                case 2:
                    return lines.fact(row[place], MAKER);
                case 3:
                    return lines.fact(row[place], WRITER);
                default:
                    return knotAts[place];
            }
        }

        int sidesOf(int clash) {
            int sides = 0;
            for (int place = 0; place < size; place++) {
                if (clashAts[place] == clash) {
                    sides = sideAts[place] + 1;
                }
            }
            return sides;
        }

        /** A set always shows the same, as no CHANGE is ever altered: only another one is worth the work. */
        void showSet(int set) {
            int own = set & changes.setOfPart(part);
            if (own == seen) {
                return;
            }
            seen = own;
            isWritten = false;
            there = changes.linesIn(own);
            live = there & ~changes.deadIn(own);
            Arrays.fill(below, 0L);
            lines.addSteps(there, below);
            changes.addSteps(own, below);
            findWays();
            findUnsure();
            size = 0;
            knots = 0;
            clashes = 0;
            long rest = live;
            for (int knot = 0; knot < MAX_LINES && rest != 0; knot++) {
                long next = firstKnot(rest);
                placeKnot(next);
                rest &= ~next;
            }
        }

        private void findWays() {
            for (int over = 0; over < MAX_LINES; over++) {
                for (int line = 0; line < MAX_LINES && below[over] != 0; line++) {
                    if ((below[line] >>> over & 1L) != 0) {
                        below[line] |= below[over];
                    }
                }
            }
            Arrays.fill(above, 0L);
            for (int line = 0; line < MAX_LINES; line++) {
                for (int other = 0; other < MAX_LINES && below[line] != 0; other++) {
                    if ((below[line] >>> other & 1L) != 0) {
                        above[other] |= 1L << line;
                    }
                }
            }
        }

        private void findUnsure() {
            for (int line = 0; line < MAX_LINES; line++) {
                long self = 1L << line;
                // A way in just one direction is what makes a pair sure.
                unsure[line] = (live & self) == 0 ? 0 : live & ~self & ~(below[line] ^ above[line]);
            }
        }

        /** Starts at a LINE with none of the rest ahead: such a one is never of a later KNOT. */
        private long firstKnot(long rest) {
            long knot = 0;
            for (int line = 0; line < MAX_LINES && knot == 0; line++) {
                if ((rest >>> line & 1L) != 0 && (above[line] & ~below[line] & rest) == 0) {
                    knot = 1L << line;
                }
            }
            for (int round = 0; round < MAX_LINES; round++) {
                long grown = knot;
                for (int line = 0; line < MAX_LINES; line++) {
                    if ((grown >>> line & 1L) != 0) {
                        grown |= unsure[line];
                    }
                }
                if (grown == knot) {
                    break;
                }
                knot = grown;
            }
            return knot;
        }

        // Lines are numbered change by change, so rising numbers go side by side as well.
        private void placeKnot(long knot) {
            int clash = NONE;
            if (Long.bitCount(knot) > 1) {
                clash = clashes;
                clashes++;
            }
            int side = NONE;
            int maker = NONE;
            for (int line = 0; line < MAX_LINES && size < MAX_LINES; line++) {
                if ((knot >>> line & 1L) != 0) {
                    if (lines.fact(line, MAKER) != maker) {
                        maker = lines.fact(line, MAKER);
                        side++;
                    }
                    row[size] = line;
                    knotAts[size] = knots;
                    clashAts[size] = clash;
                    sideAts[size] = side;
                    size++;
                }
            }
            knots++;
        }

        /** SHOWN; written when it is asked for first, as most sets are tried for their CLASHES alone. */
        Signs signs() {
            if (isWritten) {
                return signs;
            }
            isWritten = true;
            signs.clear();
            for (int place = 0; place < size; place++) {
                boolean isFirst = place == 0 || knotAts[place - 1] != knotAts[place];
                boolean isLast = place == size - 1 || knotAts[place + 1] != knotAts[place];
                boolean isClash = clashAts[place] != NONE;
                boolean isNewSide = !isFirst && sideAts[place - 1] != sideAts[place];
                signs.addBetween(isNewSide ? '=' : '|');
                if (isClash && isFirst) {
                    signs.add('<');
                }
                signs.addWord(wordAt(place));
                if (isClash && isLast) {
                    signs.add('>');
                }
            }
            return signs;
        }

        /** Whether unlike KNOTS are AHEAD as they are numbered, and each LIVE LINE is in just one. */
        boolean isInKnots() {
            long placed = 0;
            for (int place = 0; place < size; place++) {
                placed |= 1L << row[place];
                for (int later = place + 1; later < size; later++) {
                    if (knotAts[place] != knotAts[later] && !leads(row[place], row[later])) {
                        return false;
                    }
                }
            }
            return placed == live && Long.bitCount(live) == size;
        }
    }
}
