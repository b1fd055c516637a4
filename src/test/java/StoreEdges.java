/** The edges of the document's section 4 and of promises 13 to 25: putting in and out, tags and the walk. */
final class StoreEdges extends Edges {
    private StoreEdges() { }

    static void run() {
        puttingAndTaking();
        searching();
        tagsAndWalk();
        walkEnds();
        walkStays();
        exceptions();
        put();
        take();
        putAll();
        takeAll();
        swap();
        pull();
        tag();
        asTagged();
        walk();
        forthAndBack();
        drop();
        knock();
    }

    private static final String STORE_CHANGE =
        "Throws `IndexOutOfBoundsException` if store is not 0 to 2, or there is no such CHANGE";
    private static final String STORE_OTHER =
        "Throws `IndexOutOfBoundsException` if store or other is not 0 to 2";

    private static void order(Patchstore x, int store, int... changes) {
        due(changes.length, x.ofStore(store, 0));
        for (int place = 0; place < changes.length; place++) {
            due(changes[place], x.ordered(store, place));
        }
    }

    private static void puttingAndTaking() {
        of("4");
        edge("To PUT a CHANGE into a STORE: it comes to the end of its ORDER.", () -> {
            Patchstore x = threeFree();
            x.put(2, 1);
            x.put(2, 2);
            x.put(2, 0);
            order(x, 2, 1, 2, 0);
        });
        edge("It can't be done, if it is in it", () -> {
            Patchstore x = threeFree();
            cant(x, () -> x.put(0, 2));
            cant(x, () -> x.put(1, 2));
        });
        edge("or one that it HANGS on is not", () -> {
            Patchstore x = straight();
            cant(x, () -> x.put(1, 1));
            x.put(1, 0);
            cant(x, () -> x.put(1, 2));
            due(2, x.put(1, 1));
            due(3, x.put(1, 2));
        });
        edge("To TAKE it out: it can't be done, if it is not in it", () -> {
            Patchstore x = straight();
            cant(x, () -> x.take(1, 2));
            x.take(0, 2);
            cant(x, () -> x.take(0, 2));
        });
        edge("or one that is HANGS on it", () -> {
            Patchstore x = straight();
            cant(x, () -> x.take(0, 1));
            cant(x, () -> x.take(0, 0));
            x.putAll(1, 0);
            due(0, x.take(1, 0));
            due(2, x.take(0, 2));
            due(1, x.take(0, 1));
        });
    }

    private static void looks(Patchstore x, int word, int found, int looks) {
        due(found, x.search(0, word, false));
        due(looks, x.search(0, word, true));
    }

    /** Changes 0 to 4 write a, b, c, d, e into part 0 of store 0, one behind the other. */
    private static Patchstore five() {
        Patchstore x = fresh();
        for (int k = 0; k < 5; k++) {
            x.type(k, k);
            x.record(0, 0);
        }
        return x;
    }

    private static void searching() {
        edge("whether some LIVE LINE of either PART has it", () -> {
            Patchstore x = threeFree();
            due(0, x.search(0, 0, false));
            due(1, x.search(0, 1, false));
            x.kill(0, 1);
            due(NONE, x.search(0, 1, false));
        });
        edge("if the set is that of the first k CHANGES of the ORDER alone", () -> {
            Patchstore x = fresh();
            record(x, 0, 0, "a");
            x.kill(0, 0);
            record(x, 0, 0, "ab");
            looks(x, 0, 0, 2);
            looks(x, 1, 2, 3);
            x.swap(0, 1);
            order(x, 0, 0, 2, 1);
            looks(x, 0, 0, 2);
            looks(x, 1, 2, 3);
        });
        edge("if the set is that of the first k CHANGES of the ORDER alone", () -> {
            Patchstore x = threeFree();
            x.swap(0, 0);
            x.swap(0, 1);
            order(x, 0, 1, 2, 0);
            looks(x, 0, 0, 3);
            looks(x, 2, 2, 3);
            looks(x, 1, 1, 2);
        });
        edge("At first one LOOKS at all (that is one LOOK, too); if it is not there, nothing is found.", () -> {
            looks(fresh(), 0, NONE, 1);
            looks(straight(), 25, NONE, 1);
            Patchstore x = straight();
            x.kill(0, 0);
            looks(x, 0, NONE, 1);
        });
        edge("as long as high is above low + 1", () -> {
            Patchstore x = fresh();
            record(x, 0, 0, "a");
            looks(x, 0, 0, 1);
            record(x, 0, 0, "ab");
            looks(x, 0, 0, 2);
            looks(x, 1, 1, 2);
        });
        edge("one LOOKS at (low + high) / 2, rounded down", () -> {
            Patchstore x = five();
            looks(x, 0, 0, 3);
            looks(x, 1, 1, 3);
            looks(x, 2, 2, 3);
            looks(x, 3, 3, 4);
            looks(x, 4, 4, 4);
        });
        edge("if it is there, high becomes that, otherwise low does", () -> {
            Patchstore x = five();
            x.kill(0, 0);
            x.revive(0, 0);
            looks(x, 0, 0, 3);
            x.kill(0, 1);
            x.revive(0, 1);
            due(9, x.ofStore(0, 0));
            looks(x, 1, 1, 4);
        });
        edge("if it is there, high becomes that, otherwise low does", () -> {
            Patchstore x = fresh();
            record(x, 0, 0, "a");
            x.kill(0, 0);
            for (int k = 5; k < 9; k++) {
                x.name(0, 0, k);
            }
            x.revive(0, 0);
            looks(x, 0, 6, 4);
        });
        edge("Found is the CHANGE at the place high - 1 of the ORDER.", () -> {
            Patchstore x = chain();
            x.swap(0, 1);
            looks(x, 2, 2, 3);
            looks(x, 1, 1, 3);
            looks(x, 0, 0, 2);
        });
    }

    private static void tagsAndWalk() {
        edge("TAGS: at most 4, numbered from 0, each the ORDER of a STORE as it was.", () -> {
            Patchstore x = chain();
            for (int k = 0; k < 4; k++) {
                due(k, x.tag(k % 3));
            }
            thrown(x, STATE, () -> x.tag(1));
            x.swap(0, 1);
            x.take(0, 1);
            due(7, x.tagged(0, true));
            due(3, x.asTagged(2, 0));
            order(x, 2, 0, 1, 2);
        });
        edge("One WALK at most goes over the ORDER of a STORE", () -> {
            Patchstore x = chain();
            x.walk(0);
            x.forth();
            x.walk(1);
            due(1, x.walked(0));
            due(0, x.walked(1));
            x.kill(0, 0);
            due(1, x.walked(0));
        });
        edge("it stands between two CHANGES, ahead of all, or behind all", () -> {
            Patchstore x = chain();
            x.walk(0);
            due(0, x.walked(1));
            cant(x, x::back);
            x.forth();
            due(1, x.walked(1));
            x.forth();
            x.forth();
            due(3, x.walked(1));
            cant(x, x::forth);
        });
        edge("PASSED is the CHANGE over which it went last", () -> {
            Patchstore x = chain();
            x.walk(0);
            due(NONE, x.walked(2));
            x.forth();
            x.forth();
            due(1, x.walked(2));
            x.back();
            due(1, x.walked(2));
            x.back();
            due(0, x.walked(2));
        });
        edge("till one is dropped by it (then there is none PASSED)", () -> {
            Patchstore x = chain();
            x.walk(0);
            x.forth();
            x.forth();
            x.drop();
            due(NONE, x.walked(2));
            due(0, x.walked(0));
            due(1, x.walked(1));
            due(2, x.forth());
        });
    }

    private interface Change {
        void make(Patchstore x);
    }

    private static void walkEnds() {
        Change[] changes = {x -> record(x, 0, 1, "q"), x -> x.kill(0, 0), x -> x.revive(0, 1), x -> x.tell(0, 2, 3),
            x -> x.name(0, 0, 5), x -> x.settle(0, 0, 0, 0), x -> x.move(0, 1, 0, 1, 1), x -> x.put(0, 8),
            x -> x.take(0, 7), x -> x.putAll(0, 8), x -> x.takeAll(0, 2), x -> x.swap(0, 1), x -> x.pull(0, 2),
            x -> x.asTagged(0, 0)};
        for (Change change : changes) {
            edge("If the ORDER of that STORE is changed by another call, there is no WALK any more.", () -> {
                Patchstore x = walkable();
                due(0, x.walked(2));
                due(1, x.walked(1));
                change.make(x);
                for (int what = 0; what <= 2; what++) {
                    due(NONE, x.walked(what));
                }
                thrown(x, STATE, x::forth);
            });
        }
    }

    /**
     * threeSides() with line 1 dead (change 4), the lines ab in part 1 (5, 6), a name (7), and change 8 of store 2
     * not in store 0, where the walk passed change 0; the tag 0 is the order of store 0.
     */
    private static Patchstore walkable() {
        Patchstore x = threeSides();
        x.kill(0, 1);
        record(x, 0, 1, "a");
        record(x, 0, 1, "ab");
        x.name(0, 1, 4);
        x.name(2, 1, 4);
        x.tag(0);
        x.walk(0);
        x.forth();
        return x;
    }

    private static void walkStays() {
        Change[] changes = {x -> record(x, 1, 1, "q"), x -> x.kill(1, 0), x -> x.put(1, 8), x -> x.take(1, 2),
            x -> x.pull(1, 0), x -> x.putAll(1, 8), x -> x.takeAll(1, 0), x -> x.asTagged(1, 0),
            x -> x.swap(2, 1), x -> x.pull(0, 0), x -> x.pull(0, 1), x -> x.putAll(0, 0), x -> x.tag(0),
            x -> x.put(0, 0), x -> x.take(0, 0), x -> x.swap(0, 0), x -> x.record(0, 0), x -> x.name(0, 0, 0),
            x -> x.load(0, 1), x -> x.type(0, 0), x -> x.knock(), x -> x.isSound(), x -> x.wouldClash(0, 8)};
        for (Change change : changes) {
            edge("If the ORDER of that STORE is changed by another call", () -> {
                Patchstore x = walkable();
                change.make(x);
                due(0, x.walked(0));
                due(1, x.walked(1));
                due(0, x.walked(2));
                due(1, x.forth());
            });
        }
        edge("If the ORDER of that STORE is changed by another call", () -> {
            Patchstore x = straight();
            x.walk(1);
            x.takeAll(1, 0);
            x.takeAll(1, 2);
            due(1, x.walked(0));
            x.put(1, 0);
            due(NONE, x.walked(0));
        });
    }

    private static void exceptions() {
        edge("A method that throws an exception changes nothing.", () -> {
            Patchstore x = walkable();
            x.tag(0);
            x.tag(0);
            x.tag(0);
            write(x, "abcdefghij");
            Call[] calls = {() -> x.type(0, 0), () -> x.erase(10), () -> x.tag(0), () -> x.asTagged(0, 4),
                () -> x.walk(3), () -> x.pull(0, 3), () -> x.swap(0, 7), () -> x.takeAll(0, 9), () -> x.putAll(3, 0)};
            Class<?>[] due = {STATE, INDEX, STATE, INDEX, INDEX, INDEX, INDEX, INDEX, INDEX};
            for (int k = 0; k < calls.length; k++) {
                thrown(x, due[k], calls[k]);
            }
        });
        String first = "If several exceptions apply, the one that is named first is thrown.";
        Patchstore x = walkable();
        fillChanges(x);
        for (int k = 0; k < 3; k++) {
            x.tag(0);
        }
        write(x, "abcdefghij");
        edge(first, () -> thrown(x, INDEX, () -> x.type(11, 26)));
        edge(first, () -> thrown(x, ARGUMENT, () -> x.type(10, 26)));
        edge(first, () -> thrown(x, INDEX, () -> x.record(3, 0)));
        edge(first, () -> thrown(x, INDEX, () -> x.kill(0, 60)));
        edge(first, () -> thrown(x, INDEX, () -> x.revive(0, 60)));
        edge(first, () -> thrown(x, INDEX, () -> x.tell(0, 2, 60)));
        edge(first, () -> thrown(x, INDEX, () -> x.name(0, 2, 26)));
        edge(first, () -> thrown(x, ARGUMENT, () -> x.name(0, 0, 26)));
        edge(first, () -> thrown(x, INDEX, () -> x.settle(0, 2, -1, -1)));
        edge(first, () -> thrown(x, ARGUMENT, () -> x.settle(0, 0, 0, -1)));
        edge(first, () -> thrown(x, INDEX, () -> x.move(0, 1, 0, 3, 9)));
        edge(first, () -> thrown(x, ARGUMENT, () -> x.move(0, 1, 0, 1, 2)));
        edge(first, () -> thrown(x, INDEX, () -> x.tag(3)));
        edge(first, () -> thrown(x, INDEX, () -> x.ofPart(3, 0, 6)));
        edge(first, () -> thrown(x, INDEX, () -> x.at(0, 0, 9, 5)));
        edge(first, () -> thrown(x, INDEX, () -> x.sides(0, 2, -1)));
        edge(first, () -> thrown(x, INDEX, () -> x.side(3, 0, -1, -1)));
        edge(first, () -> thrown(x, INDEX, () -> x.ofLine(60, 7)));
        edge(first, () -> thrown(x, INDEX, () -> x.ofChange(24, 10)));
        edge(first, () -> thrown(x, INDEX, () -> x.ofStore(3, 5)));
        edge(first, () -> thrown(x, INDEX, () -> x.search(3, 26, true)));
    }

    private static void put() {
        of("P13");
        edge("PUTS a CHANGE into a STORE.", () -> {
            Patchstore x = chain();
            x.put(2, 0);
            due("a", x.shown(2, 0));
            x.put(2, 2);
            due("c|a", x.shown(2, 0));
            due("", x.shown(1, 0));
        });
        edge("It is LET.", () -> {
            Patchstore x = straight();
            cant(x, () -> x.put(0, 2));
            cant(x, () -> x.put(1, 1));
        });
        edge("Returns how many it has then; -9 if it can't be done.", () -> {
            Patchstore x = chain();
            cant(x, () -> x.put(1, 2));
            due(1, x.put(1, 0));
            due(2, x.put(1, 2));
            due(3, x.put(1, 1));
            cant(x, () -> x.put(1, 1));
        });
        edge(STORE_CHANGE, () -> {
            Patchstore x = chain();
            outside(x, INDEX, 0, 2, value -> x.put(value, 0));
            outside(x, INDEX, 0, 2, value -> x.put(1, value));
            Patchstore none = fresh();
            outside(none, INDEX, 0, -1, value -> none.put(0, value));
        });
        edge(STORE_CHANGE, () -> {
            Patchstore x = fresh();
            fillChanges(x);
            outside(x, INDEX, 0, 23, value -> x.put(1, value));
            x.pull(1, 0);
            due(23, x.take(1, 23));
            due(24, x.put(1, 23));
        });
    }

    private static void take() {
        of("P14");
        edge("TAKES a CHANGE out of a STORE.", () -> {
            Patchstore x = chain();
            x.pull(1, 0);
            x.take(0, 1);
            order(x, 0, 0, 2);
            due("c|a", x.shown(0, 0));
            order(x, 1, 0, 1, 2);
        });
        edge("It is LET.", () -> {
            Patchstore x = straight();
            cant(x, () -> x.take(0, 1));
            cant(x, () -> x.take(1, 0));
        });
        edge("Returns how many it has then; -9 if it can't be done.", () -> {
            Patchstore x = chain();
            cant(x, () -> x.take(0, 0));
            due(2, x.take(0, 2));
            due(1, x.take(0, 1));
            due(0, x.take(0, 0));
            cant(x, () -> x.take(0, 0));
        });
        edge(STORE_CHANGE, () -> {
            Patchstore x = chain();
            outside(x, INDEX, 0, 2, value -> x.take(value, 0));
            outside(x, INDEX, 0, 2, value -> x.take(0, value));
        });
    }

    /** straight() with change 3, which puts in a line between a and b, and one behind c: it hangs on 0, 1 and 2. */
    private static Patchstore woven() {
        Patchstore x = straight();
        record(x, 0, 0, "axbcy");
        return x;
    }

    private static void putAll() {
        of("P15");
        edge("PUTS in all that a CHANGE HANGS on and are not in it, by rising numbers, and then the CHANGE", () -> {
            Patchstore x = woven();
            due(1 + 2 + 4, x.ofChange(3, 8));
            due(4, x.putAll(1, 3));
            order(x, 1, 0, 1, 2, 3);
            due("a|x|b|c|y", x.shown(1, 0));
        });
        edge("by rising numbers, and then the CHANGE", () -> {
            Patchstore x = threeFree();
            x.swap(0, 1);
            x.swap(0, 0);
            x.tell(0, 2, 0);
            order(x, 0, 2, 0, 1, 3);
            due(3, x.putAll(2, 3));
            order(x, 2, 0, 2, 3);
        });
        edge("all that a CHANGE HANGS on", () -> {
            Patchstore x = straight();
            due(2, x.ofChange(2, 7));
            due(3, x.putAll(1, 2));
            order(x, 1, 0, 1, 2);
        });
        edge("and are not in it", () -> {
            Patchstore x = chain();
            record(x, 0, 0, "caxb");
            x.put(1, 0);
            x.put(1, 2);
            due(2, x.putAll(1, 3));
            order(x, 1, 0, 2, 1, 3);
        });
        edge("if it is not", () -> {
            Patchstore x = woven();
            due(0, x.putAll(0, 3));
            order(x, 0, 0, 1, 2, 3);
        });
        edge("Returns how many came.", () -> {
            Patchstore x = woven();
            due(1, x.putAll(1, 0));
            due(0, x.putAll(1, 0));
            due(2, x.putAll(1, 2));
            due(1, x.putAll(1, 3));
        });
        edge(STORE_CHANGE, () -> {
            Patchstore x = chain();
            outside(x, INDEX, 0, 2, value -> x.putAll(value, 0));
            outside(x, INDEX, 0, 2, value -> x.putAll(1, value));
        });
    }

    private static void takeAll() {
        of("P16");
        edge("TAKES out all of the STORE that HANG on a CHANGE, by falling numbers, and then the CHANGE", () -> {
            Patchstore x = woven();
            record(x, 0, 1, "q");
            due(3, x.takeAll(0, 1));
            order(x, 0, 0, 4);
            due("a", x.shown(0, 0));
        });
        edge("if it is in it", () -> {
            Patchstore x = woven();
            x.put(1, 0);
            due(0, x.takeAll(1, 2));
            due(0, x.takeAll(2, 0));
            order(x, 1, 0);
        });
        edge("Returns how many went.", () -> {
            Patchstore x = woven();
            due(1, x.takeAll(0, 3));
            due(3, x.takeAll(0, 0));
            due(0, x.takeAll(0, 0));
            due(0, x.ofStore(0, 0));
        });
        edge(STORE_CHANGE, () -> {
            Patchstore x = chain();
            outside(x, INDEX, 0, 2, value -> x.takeAll(value, 0));
            outside(x, INDEX, 0, 2, value -> x.takeAll(0, value));
        });
    }

    private static void swap() {
        of("P17");
        edge("Exchanges the CHANGE at a place of the ORDER and the next one.", () -> {
            Patchstore x = threeFree();
            x.swap(0, 0);
            order(x, 0, 1, 0, 2);
            x.swap(0, 1);
            order(x, 0, 1, 2, 0);
            due("<a=c>", x.shown(0, 0));
        });
        edge("It is LET; it can't be done, if the later one HANGS on the earlier one", () -> {
            Patchstore x = chain();
            cant(x, () -> x.swap(0, 0));
            due(2, x.swap(0, 1));
            cant(x, () -> x.swap(0, 0));
        });
        edge("Returns the CHANGE that is at the place then; -9 if it can't be done.", () -> {
            Patchstore x = threeFree();
            due(2, x.swap(0, 1));
            due(2, x.swap(0, 0));
            due(0, x.swap(0, 0));
            due(CANT, straight().swap(0, 1));
        });
        edge("or place not 0 to how many CHANGES it has less 2", () -> {
            Patchstore x = threeFree();
            outside(x, INDEX, 0, 1, value -> x.swap(0, value));
            outside(x, INDEX, 0, -1, value -> x.swap(1, value));
            outside(x, INDEX, 0, -1, value -> x.swap(2, value));
            thrown(x, INDEX, () -> x.swap(1, -1));
            thrown(x, INDEX, () -> x.swap(2, -2));
        });
        edge("Throws `IndexOutOfBoundsException` if store is not 0 to 2", () -> {
            Patchstore x = threeFree();
            outside(x, INDEX, 0, 2, value -> x.swap(value, 0));
        });
    }

    private static void pull() {
        of("P18");
        edge("PUTS in all CHANGES that another STORE has, and this one has not, in the ORDER of that.", () -> {
            Patchstore x = threeFree();
            x.swap(0, 0);
            x.swap(0, 1);
            order(x, 0, 1, 2, 0);
            x.put(2, 0);
            due(2, x.pull(2, 0));
            order(x, 2, 0, 1, 2);
            due(2, x.pull(1, 0));
            order(x, 1, 2, 1, 0);
            order(x, 0, 1, 2, 0);
        });
        edge("a STORE (it may be the same)", () -> {
            Patchstore x = threeFree();
            due(0, x.pull(0, 0));
            due(0, x.pull(2, 2));
            order(x, 0, 0, 1, 2);
        });
        edge("Returns how many came.", () -> {
            Patchstore x = threeFree();
            due(0, x.pull(0, 2));
            due(2, x.pull(1, 0));
            due(0, x.pull(1, 0));
            due(3, x.pull(2, 1));
        });
        edge(STORE_OTHER, () -> {
            Patchstore x = threeFree();
            outside(x, INDEX, 0, 2, value -> x.pull(value, 0));
            outside(x, INDEX, 0, 2, value -> x.pull(1, value));
        });
    }

    private static void tag() {
        of("P19");
        edge("A TAG of a STORE comes.", () -> {
            Patchstore x = chain();
            x.tag(0);
            x.tag(2);
            due(2, x.house(2));
            due(3, x.tagged(0, false));
            due(0, x.tagged(1, false));
        });
        edge("Returns its number.", () -> {
            Patchstore x = chain();
            for (int k = 0; k < 4; k++) {
                due(k, x.tag(0));
            }
        });
        edge("Throws `IndexOutOfBoundsException` if store is not 0 to 2", () -> {
            Patchstore x = chain();
            outside(x, INDEX, 0, 2, x::tag);
            for (int k = 0; k < 4; k++) {
                x.tag(0);
            }
            outside(x, INDEX, 0, 2, x::tag);
        });
        edge("Throws `IllegalStateException` if there are 4", () -> {
            Patchstore x = chain();
            for (int k = 0; k < 3; k++) {
                x.tag(0);
            }
            due(3, x.tag(1));
            for (int store = 0; store <= 2; store++) {
                int there = store;
                thrown(x, STATE, () -> x.tag(there));
            }
        });
    }

    private static void asTagged() {
        of("P20");
        edge("The ORDER of a STORE becomes that of a TAG", () -> {
            Patchstore x = chain();
            x.swap(0, 1);
            x.tag(0);
            x.tag(1);
            record(x, 1, 1, "q");
            due(3, x.asTagged(1, 0));
            order(x, 1, 0, 2, 1);
            due("", x.shown(1, 1));
            due("c|a|b", x.shown(1, 0));
            due(0, x.asTagged(0, 1));
            due("", x.shown(0, 0));
        });
        edge("(that counts as changed, also if it is the same)", () -> {
            Patchstore x = chain();
            x.tag(0);
            x.tag(1);
            x.walk(0);
            x.asTagged(0, 0);
            due(NONE, x.walked(0));
            x.walk(1);
            x.asTagged(0, 0);
            due(1, x.walked(0));
            x.asTagged(1, 1);
            due(NONE, x.walked(0));
        });
        edge("Returns how many CHANGES it has then.", () -> {
            Patchstore x = chain();
            x.tag(2);
            x.tag(0);
            due(3, x.asTagged(2, 1));
            due(0, x.asTagged(0, 0));
            due(3, x.tagged(1, false));
        });
        edge("Throws `IndexOutOfBoundsException` if store is not 0 to 2, or there is no such TAG", () -> {
            Patchstore x = chain();
            outside(x, INDEX, 0, -1, value -> x.asTagged(0, value));
            x.tag(0);
            outside(x, INDEX, 0, 0, value -> x.asTagged(0, value));
            outside(x, INDEX, 0, 2, value -> x.asTagged(value, 0));
            for (int k = 1; k < 4; k++) {
                x.tag(0);
            }
            outside(x, INDEX, 0, 3, value -> x.asTagged(0, value));
            due(3, x.asTagged(0, 3));
        });
    }

    private static void walk() {
        of("P21");
        edge("The WALK stands in a STORE, ahead of all CHANGES (nothing is PASSED).", () -> {
            Patchstore x = chain();
            x.walk(0);
            x.forth();
            x.forth();
            x.walk(0);
            due(0, x.walked(0));
            due(0, x.walked(1));
            due(NONE, x.walked(2));
            due(0, x.forth());
        });
        edge("Returns how many CHANGES it has.", () -> {
            Patchstore x = chain();
            due(0, x.walk(1));
            due(3, x.walk(0));
            due(0, x.walk(2));
        });
        edge("Throws `IndexOutOfBoundsException` if store is not 0 to 2", () -> {
            Patchstore x = chain();
            outside(x, INDEX, 0, 2, x::walk);
            x.walk(0);
            x.forth();
            outside(x, INDEX, 0, 2, x::walk);
        });
    }

    private static void forthAndBack() {
        of("P22");
        edge("The WALK goes over the next CHANGE.", () -> {
            Patchstore x = chain();
            x.swap(0, 1);
            x.walk(0);
            due(0, x.forth());
            due(2, x.forth());
            due(1, x.forth());
            due(3, x.walked(1));
        });
        edge("It is LET; it can't be done behind all", () -> {
            Patchstore x = chain();
            x.walk(1);
            cant(x, x::forth);
            x.walk(0);
            for (int k = 0; k < 3; k++) {
                x.forth();
            }
            cant(x, x::forth);
            due(2, x.walked(2));
            due(2, x.back());
        });
        edge("It is LET; it can't be done behind all", () -> {
            Patchstore x = fresh();
            fillChanges(x);
            x.walk(0);
            for (int k = 0; k < 24; k++) {
                due(k, x.forth());
            }
            cant(x, x::forth);
        });
        edge("Returns the CHANGE that is PASSED then; -9 if it can't be done.", () -> {
            Patchstore x = chain();
            x.walk(0);
            due(0, x.forth());
            due(0, x.walked(2));
            due(0, x.back());
            due(0, x.forth());
        });
        edge("Throws `IllegalStateException` if there is no WALK", () -> {
            Patchstore x = chain();
            thrown(x, STATE, x::forth);
            x.walk(0);
            x.take(0, 2);
            thrown(x, STATE, x::forth);
        });
        of("P23");
        edge("The WALK goes back over the CHANGE ahead of it.", () -> {
            Patchstore x = chain();
            x.swap(0, 1);
            x.walk(0);
            for (int k = 0; k < 3; k++) {
                x.forth();
            }
            due(1, x.back());
            due(2, x.walked(1));
            due(2, x.back());
            due(0, x.back());
            due(0, x.walked(1));
        });
        edge("It is LET; it can't be done ahead of all", () -> {
            Patchstore x = chain();
            x.walk(2);
            cant(x, x::back);
            x.walk(0);
            cant(x, x::back);
            x.forth();
            x.back();
            cant(x, x::back);
            due(0, x.walked(2));
            due(0, x.forth());
        });
        edge("Returns the CHANGE that is PASSED then; -9 if it can't be done.", () -> {
            Patchstore x = chain();
            x.walk(0);
            x.forth();
            x.forth();
            due(1, x.back());
            due(1, x.walked(2));
            due(1, x.walked(1));
        });
        edge("Throws `IllegalStateException` if there is no WALK", () -> {
            Patchstore x = chain();
            thrown(x, STATE, x::back);
            x.walk(0);
            x.forth();
            x.kill(0, 0);
            thrown(x, STATE, x::back);
        });
    }

    private static void drop() {
        of("P24");
        edge("The CHANGE that is PASSED is TAKEN out.", () -> {
            Patchstore x = threeFree();
            x.walk(0);
            x.forth();
            x.forth();
            due(2, x.drop());
            order(x, 0, 0, 2);
            due("", x.shown(0, 1));
            due(1, x.walked(1));
            due(2, x.forth());
            due(1, x.drop());
            order(x, 0, 0);
        });
        edge("The CHANGE that is PASSED is TAKEN out.", () -> {
            Patchstore x = threeFree();
            x.walk(0);
            x.forth();
            x.forth();
            x.back();
            due(2, x.drop());
            order(x, 0, 0, 2);
            due(1, x.walked(1));
            due(0, x.walked(0));
            due(2, x.forth());
            x.back();
            x.back();
            due(0, x.walked(2));
            due(1, x.drop());
            due(0, x.walked(1));
            order(x, 0, 2);
        });
        edge("It is LET; it can't be done if none is", () -> {
            Patchstore x = threeFree();
            x.walk(2);
            cant(x, x::drop);
            x.walk(0);
            cant(x, x::drop);
            x.forth();
            x.drop();
            cant(x, x::drop);
            due(0, x.walked(1));
        });
        edge("or one of the STORE HANGS on it", () -> {
            Patchstore x = straight();
            x.put(1, 0);
            x.walk(0);
            x.forth();
            cant(x, x::drop);
            x.forth();
            cant(x, x::drop);
            due(1, x.walked(2));
            x.walk(1);
            x.forth();
            due(0, x.drop());
        });
        edge("Returns how many CHANGES the STORE has then; -9 if it can't be done.", () -> {
            Patchstore x = straight();
            x.walk(0);
            for (int k = 2; k >= 0; k--) {
                while (x.walked(1) < x.ofStore(0, 0)) {
                    x.forth();
                }
                if (x.walked(2) == NONE) {
                    x.back();
                }
                due(k, x.drop());
            }
            due(0, x.walked(0));
        });
        edge("Throws `IllegalStateException` if there is no WALK", () -> {
            Patchstore x = straight();
            thrown(x, STATE, x::drop);
            x.walk(0);
            x.forth();
            x.name(0, 0, 5);
            thrown(x, STATE, x::drop);
        });
    }

    private static void knock() {
        of("P25");
        edge("Knocks.", () -> {
            Patchstore x = fresh();
            x.knock();
            x.knock();
            due(2, x.house(3));
        });
        edge("Returns how often one knocked, with this.", () -> {
            Patchstore x = fresh();
            for (int k = 1; k <= 512; k++) {
                due(k, x.knock());
            }
            due(1, fresh().knock());
        });
    }
}
