/** The edges of what stands ahead of the document's sections, and of its sections 1 and 2. */
final class TextEdges extends Edges {
    private TextEdges() { }

    static void run() {
        cantBeDone();
        exceptionsAhead();
        asking();
        numbers();
        hanging();
        there();
        ahead();
        knots();
        shownText();
        names();
    }

    private static void cantBeDone() {
        of("0");
        String words = "A call that is LET, but can't be done, tells -9 and changes nothing";
        Patchstore x = threeSides();
        edge(words, () -> cant(x, () -> x.load(0, 0)));
        edge(words, () -> cant(x, () -> x.record(0, 0)));
        edge(words, () -> cant(x, () -> x.kill(1, 2)));
        edge(words, () -> cant(x, () -> x.revive(0, 0)));
        edge(words, () -> cant(x, () -> x.tell(0, 0, 1)));
        edge(words, () -> cant(x, () -> x.name(0, 0, 0)));
        edge(words, () -> cant(x, () -> x.settle(1, 0, 0, 0)));
        edge(words, () -> cant(x, () -> x.move(1, 0, 1, 2, 1)));
        edge(words, () -> cant(x, () -> x.put(0, 0)));
        edge(words, () -> cant(x, () -> x.take(0, 0)));
        edge(words, () -> cant(x, () -> x.swap(0, 0)));
        x.walk(1);
        edge(words, () -> cant(x, x::back));
        edge(words, () -> cant(x, x::drop));
        x.forth();
        x.forth();
        edge(words, () -> cant(x, x::forth));
    }

    private static void exceptionsAhead() {
        String words = "exceptions go ahead of it";
        Patchstore x = threeSides();
        edge(words, () -> thrown(x, ARGUMENT, () -> x.settle(0, 0, 9, -1)));
        edge(words, () -> thrown(x, ARGUMENT, () -> x.settle(1, 0, -1, 0)));
        edge(words, () -> thrown(x, ARGUMENT, () -> x.move(0, 0, 0, 1, 6)));
        edge(words, () -> thrown(x, INDEX, () -> x.move(0, 0, 0, 7, 0)));
        edge(words, () -> thrown(x, INDEX, () -> x.tell(0, 6, 6)));
        edge(words, () -> thrown(x, STATE, x::forth));
        edge(words, () -> thrown(x, STATE, x::back));
        edge(words, () -> thrown(x, STATE, x::drop));
        edge("but for the IllegalState of what is recorded, section 3", () -> {
            fillChanges(x);
            cant(x, () -> x.kill(1, 2));
            thrown(x, STATE, () -> x.kill(1, 3));
        });
    }

    private static void asking() {
        edge("What one asks for changes nothing.", () -> {
            Patchstore x = askable();
            Call[] calls = {x::draft, () -> x.shown(0, 0), () -> x.ofPart(0, 0, 5), () -> x.at(0, 0, 1, 3),
                () -> x.sides(0, 0, 0), () -> x.side(0, 0, 0, 1), () -> x.blame(0, 0), () -> x.nameOf(0, 0),
                () -> x.state(1, 2), () -> x.isAhead(0, 0, 1), () -> x.isAlike(0, 1), () -> x.ofLine(0, 6)};
            for (Call call : calls) {
                onlyAsks(x, call);
            }
        });
        edge("What one asks for changes nothing.", () -> {
            Patchstore x = askable();
            Call[] calls = {() -> x.ofChange(1, 8), () -> x.edits(2), () -> x.ofStore(0, 2), () -> x.ordered(0, 1),
                () -> x.placeOf(0, 1), () -> x.lacks(1, 0), () -> x.wouldClash(1, 1), () -> x.wouldClash(2, 2),
                () -> x.search(0, 24, true), () -> x.search(0, 22, false), () -> x.tagged(0, true),
                () -> x.walked(1), () -> x.house(0), x::isSound, x::digest};
            for (Call call : calls) {
                onlyAsks(x, call);
            }
            due(2, x.forth());
            due("a|<x=y|z=w>|c", x.shown(0, 0));
            due("a|y|z|c", x.shown(1, 0));
        });
    }

    /** threeSides() with a tag and a walk that passed changes 0 and 1. */
    private static Patchstore askable() {
        Patchstore x = threeSides();
        x.tag(1);
        x.walk(0);
        x.forth();
        x.forth();
        return x;
    }

    private static void numbers() {
        edge("NONE is -1.", () -> {
            Patchstore x = straight();
            due(-1, x.ofLine(0, 3));
            due(-1, x.ofLine(0, 5));
            due(-1, x.ofChange(0, 6));
            due(-1, x.ofStore(1, 3));
            due(-1, x.placeOf(1, 0));
            due(-1, x.search(0, 25, false));
            due(-1, x.walked(0));
        });
        edge("A set is the sum of 2^k for each number k in it.", () -> {
            Patchstore x = fresh();
            fillChanges(x);
            due((1 << 24) - 1, x.ofStore(0, 1));
            due((1 << 23) - 1, x.ofChange(23, 7));
            due((1 << 24) - 2, x.ofChange(0, 9));
            due((1 << 24) - 1, x.lacks(1, 0));
            x.put(1, 0);
            due(1, x.ofStore(1, 1));
            due((1 << 24) - 2, x.lacks(1, 0));
            due(0, x.ofStore(2, 1));
        });
        edge("X by X is by rising numbers", () -> {
            Patchstore x = threeSides();
            x.pull(2, 1);
            due("a|<y|z=w>|c", x.shown(2, 0));
            due(3, x.ordered(2, 1));
        });
        of("1");
        edge("WORDS are 0 (\"a\") to 25 (\"z\").", () -> {
            Patchstore x = fresh();
            x.type(0, 25);
            x.type(0, 0);
            due("az", x.draft());
            x.record(0, 0);
            due("a|z", x.shown(0, 0));
            due("a0 z0", x.blame(0, 0));
            due(25, x.ofLine(1, 1));
            due(0, x.search(0, 25, false));
            x.name(0, 0, 25);
            due("=z", x.edits(1));
            x.name(0, 0, 0);
            due("=a", x.edits(2));
        });
        edge("There are two PARTS, 0 and 1.", () -> {
            Patchstore x = fresh();
            record(x, 0, 0, "ab");
            record(x, 0, 1, "c");
            due("a|b", x.shown(0, 0));
            due("c", x.shown(0, 1));
            due(0, x.ofLine(1, 0));
            due(1, x.ofLine(2, 0));
            due(1, x.ofChange(1, 0));
        });
        edge("LINES are numbered from 0 as they are first put in", () -> {
            Patchstore x = fresh();
            record(x, 0, 1, "ab");
            record(x, 2, 0, "c");
            x.take(2, 1);
            x.put(1, 1);
            due(2, x.at(1, 0, 0, 0));
            record(x, 1, 0, "cd");
            due(3, x.at(1, 0, 1, 0));
            due(0, x.at(0, 1, 0, 0));
            due(4, x.house(0));
        });
        edge("at most 60 ever", () -> {
            Patchstore x = plain(59);
            record(x, 0, 0, "bcdefghijk");
            due(60, x.house(0));
            for (int change = 0; change < 6; change++) {
                x.takeAll(change / 2, change);
            }
            due("", x.shown(0, 0));
            write(x, "z");
            thrown(x, STATE, () -> x.record(0, 0));
            due(60, x.house(0));
        });
        edge("an UP (a LINE of its PART, or NONE) and a DOWN (likewise)", () -> {
            Patchstore x = fresh();
            record(x, 0, 0, "a");
            record(x, 0, 1, "bc");
            record(x, 0, 1, "bdc");
            int[][] due = {{NONE, NONE}, {NONE, NONE}, {1, NONE}, {1, 2}};
            for (int line = 0; line < 4; line++) {
                due(due[line][0], x.ofLine(line, 3));
                due(due[line][1], x.ofLine(line, 4));
            }
        });
        edge("may have a FORMER (a LINE that it was moved from, otherwise NONE)", () -> {
            Patchstore x = fresh();
            record(x, 0, 0, "ab");
            x.move(0, 0, 0, 1, 1);
            due(NONE, x.ofLine(0, 5));
            due(NONE, x.ofLine(1, 5));
            due(0, x.ofLine(2, 5));
        });
        edge("CHANGES are numbered from 0 as they are recorded", () -> {
            Patchstore x = fresh();
            due(0, record(x, 2, 0, "a"));
            due(1, x.name(1, 0, 4));
            due(2, x.kill(2, 0));
            due(2, x.ordered(2, 1));
        });
        edge("at most 24 ever", () -> {
            Patchstore x = fresh();
            fillChanges(x);
            due(23, x.ordered(0, 23));
            due(24, x.takeAll(0, 0));
            thrown(x, STATE, () -> x.name(1, 0, 3));
            due(24, x.house(1));
        });
        edge("none is forgotten", () -> {
            Patchstore x = chain();
            due(3, x.takeAll(0, 0));
            due("+1", x.edits(1));
            due(0, x.state(0, 1));
            due(2, x.putAll(1, 2));
            due("c|a", x.shown(1, 0));
        });
        edge("Each is of one PART, and has EDITS", () -> {
            Patchstore x = fresh();
            record(x, 0, 1, "ab");
            due(1, x.kill(0, 0));
            due(1, x.ofChange(1, 0));
            due(1, x.ofChange(1, 1));
            due(2, x.ofChange(0, 1));
        });
    }

    private static void hanging() {
        edge("each LINE is put in by just one CHANGE", () -> {
            Patchstore x = fresh();
            record(x, 0, 0, "ab");
            x.kill(0, 0);
            x.revive(0, 0);
            x.move(0, 0, 0, 1, 1);
            int[] ins = {2, 0, 0, 1};
            for (int change = 0; change < 4; change++) {
                due(ins[change], x.ofChange(change, 2));
            }
            due(0, x.ofLine(0, 2));
            due(3, x.ofLine(2, 2));
        });
        edge("OUT of a LINE.", () -> {
            Patchstore x = chain();
            due("-1", x.edits(x.kill(0, 1)));
        });
        edge("it ENDS the OUTS of that LINE by some other CHANGES", () -> {
            Patchstore x = twoOuts();
            due(1 + 2, x.ofChange(3, 7));
            due(1, x.state(0, 0));
            x.take(0, 2);
            due(2, x.state(0, 0));
        });
        edge("TELL of two LINES: the one stands ahead of the other.", () -> {
            Patchstore x = threeFree();
            x.tell(0, 2, 0);
            due("c|a", x.shown(0, 0));
        });
        edge("it FOLLOWS some other CHANGES with a NAME of that PART", () -> {
            Patchstore x = fresh();
            x.name(0, 0, 5);
            x.name(0, 1, 6);
            x.name(0, 1, 7);
            x.name(1, 1, 8);
            due(2, x.ofChange(2, 7));
            due(0, x.ofChange(1, 7));
            due(0, x.ofChange(3, 7));
        });
        edge("A CHANGE HANGS DIRECTLY on each other CHANGE", () -> {
            Patchstore x = fresh();
            record(x, 0, 0, "abc");
            due(0, x.ofLine(1, 3));
            due(0, x.ofChange(0, 7));
            due(0, x.ofChange(0, 8));
            due(0, x.ofChange(0, 9));
        });
        edge("that put in the UP or DOWN of a LINE that it puts in", () -> {
            Patchstore x = chain();
            due(1, x.ofChange(1, 7));
            due(1, x.ofChange(2, 7));
            record(x, 0, 0, "cazb");
            due(1 + 2, x.ofChange(3, 7));
            record(x, 0, 0, "kcazb");
            due(4, x.ofChange(4, 7));
        });
        edge("or a LINE of which it has an OUT, BACK or TELL", () -> {
            Patchstore x = chain();
            x.kill(0, 1);
            due(2, x.ofChange(3, 7));
            x.revive(0, 1);
            due(2 + 8, x.ofChange(4, 7));
            Patchstore told = threeFree();
            told.tell(0, 0, 2);
            due(1 + 4, told.ofChange(3, 7));
        });
        edge("that put in the UP or DOWN of a LINE that it puts in", () -> {
            Patchstore x = chain();
            x.kill(0, 0);
            x.revive(0, 0);
            x.name(0, 0, 9);
            due(6, record(x, 0, 0, "cazb"));
            due(1 + 2, x.ofChange(6, 7));
            due(1 + 2, x.ofChange(6, 8));
        });
        edge("or a LINE of which it has an OUT, BACK or TELL", () -> {
            Patchstore x = straight();
            x.move(0, 0, 0, 1, 1);
            due("-0 +3", x.edits(3));
            due(1 + 2 + 4, x.ofChange(3, 7));
            x.move(0, 0, 1, 2, 0);
            due("-3 +4", x.edits(4));
            due(2 + 8, x.ofChange(4, 7));
            due(1 + 2 + 4 + 8, x.ofChange(4, 8));
        });
        edge("and on each of which it ENDS an OUT, or that it FOLLOWS", () -> {
            Patchstore x = twoOuts();
            x.revive(0, 0);
            due(1 + 2 + 4, x.ofChange(4, 7));
            x.name(0, 0, 9);
            x.name(0, 0, 8);
            due(32, x.ofChange(6, 7));
        });
        edge("It HANGS on those, and on all that these HANG on.", () -> {
            Patchstore x = straight();
            due(2, x.ofChange(2, 7));
            due(1 + 2, x.ofChange(2, 8));
            due(2 + 4, x.ofChange(0, 9));
        });
        edge("the CHANGE that put it in, if it has no FORMER", () -> {
            Patchstore x = straight();
            for (int line = 0; line < 3; line++) {
                due(line, x.ofLine(line, 6));
            }
        });
        edge("otherwise the WRITER of that", () -> {
            Patchstore x = straight();
            x.move(0, 0, 1, 2, 0);
            x.move(0, 0, 0, 1, 2);
            due("a|c|b", x.shown(0, 0));
            due(3, x.ofLine(4, 5));
            due(4, x.ofLine(4, 2));
            due(1, x.ofLine(4, 6));
            due("a0 c2 b1", x.blame(0, 0));
        });
    }

    /** Line 0 (change 0) is killed by 1 in store 0 and by 2 in store 1; 3 of store 0 ends the out of 1 alone. */
    private static Patchstore twoOuts() {
        Patchstore x = fresh();
        record(x, 0, 0, "a");
        x.pull(1, 0);
        x.kill(0, 0);
        x.kill(1, 0);
        x.revive(0, 0);
        x.pull(0, 1);
        return x;
    }

    private static void there() {
        of("2");
        edge("There are three STORES, 0 to 2, each with a set of CHANGES (none at first)", () -> {
            Patchstore x = fresh();
            for (int store = 0; store <= 2; store++) {
                due(0, x.ofStore(store, 1));
                x.name(store, 0, 5);
                due(1 << store, x.ofStore(store, 1));
            }
        });
        edge("that HOLDS: with each one it has all that this HANGS on", () -> {
            Patchstore x = straight();
            cant(x, () -> x.take(0, 0));
            cant(x, () -> x.put(1, 2));
            x.put(1, 0);
            cant(x, () -> x.put(1, 2));
            x.pull(2, 0);
            due(7, x.ofStore(2, 1));
        });
        edge("Its ORDER is the row of these, as they came", () -> {
            Patchstore x = chain();
            x.put(1, 0);
            x.put(1, 2);
            x.put(1, 1);
            due(0, x.ordered(1, 0));
            due(2, x.ordered(1, 1));
            due(1, x.ordered(1, 2));
        });
        edge("in it none stands ahead of one that it HANGS on", () -> {
            Patchstore x = straight();
            cant(x, () -> x.swap(0, 0));
            cant(x, () -> x.swap(0, 1));
            record(x, 0, 1, "q");
            due(3, x.swap(0, 2));
            due(3, x.swap(0, 1));
            due(3, x.swap(0, 0));
            cant(x, () -> x.swap(0, 1));
        });
        edge("A LINE is THERE, if the CHANGE that put it in is in the set.", () -> {
            Patchstore x = chain();
            due(0, x.state(1, 0));
            x.put(1, 0);
            due(2, x.state(1, 0));
            due(0, x.state(1, 1));
            x.take(1, 0);
            due(0, x.state(1, 0));
        });
        edge("if a CHANGE of the set has an OUT of it that no CHANGE of the set ENDS", () -> {
            Patchstore x = twoOuts();
            due(1, x.state(0, 0));
            due(1, x.state(1, 0));
            x.put(2, 0);
            x.put(2, 1);
            due(1, x.state(2, 0));
            x.put(2, 3);
            due(2, x.state(2, 0));
            x.put(2, 2);
            due(1, x.state(2, 0));
        });
        edge("otherwise it is LIVE", () -> {
            Patchstore x = twoOuts();
            x.revive(0, 0);
            due(2, x.state(0, 0));
            x.take(0, 3);
            due(2, x.state(0, 0));
            x.take(0, 4);
            due(1, x.state(0, 0));
            x.take(0, 1);
            due(1, x.state(0, 0));
            x.take(0, 2);
            due(2, x.state(0, 0));
        });
    }

    private static void ahead() {
        edge("STEPS lead, for each LINE that is THERE, from its UP to it, and from it to its DOWN", () -> {
            Patchstore x = chain();
            due(true, x.isAhead(0, 0, 1));
            due(true, x.isAhead(0, 2, 0));
            x.take(0, 2);
            due(false, x.isAhead(0, 2, 0));
        });
        edge("(if these are LINES)", () -> {
            Patchstore x = threeFree();
            due(false, x.isAhead(0, 0, 2));
            due(false, x.isAhead(0, 2, 0));
        });
        edge("for each TELL of a CHANGE of the set from the one to the other", () -> {
            Patchstore x = threeFree();
            x.tell(0, 2, 0);
            due(true, x.isAhead(0, 2, 0));
            due(false, x.isAhead(0, 0, 2));
            x.pull(1, 0);
            x.take(0, 3);
            due(false, x.isAhead(0, 2, 0));
            due(true, x.isAhead(1, 2, 0));
        });
        edge("if one or more STEPS, one behind the other, lead there", () -> {
            Patchstore x = fresh();
            record(x, 0, 0, "abcdefghij");
            due(true, x.isAhead(0, 0, 1));
            due(true, x.isAhead(0, 0, 9));
            due(false, x.isAhead(0, 9, 0));
            Patchstore back = fresh();
            record(back, 0, 0, "a");
            record(back, 0, 0, "ba");
            record(back, 0, 0, "cba");
            record(back, 0, 0, "dcba");
            due(true, back.isAhead(0, 3, 0));
            due(true, back.isAhead(0, 2, 0));
            due(false, back.isAhead(0, 0, 3));
        });
        edge("(over DEAD ones, too)", () -> {
            Patchstore x = fresh();
            record(x, 0, 0, "abcd");
            x.kill(0, 1);
            x.kill(0, 2);
            due(true, x.isAhead(0, 0, 3));
            due("a|d", x.shown(0, 0));
            due(true, x.isAhead(0, 1, 3));
        });
        edge("A LINE is AHEAD of another one", () -> {
            Patchstore x = straight();
            due(false, x.isAhead(0, 1, 1));
            due(false, ring().isAhead(0, 1, 1));
        });
        edge("for each TELL of a CHANGE of the set from the one to the other", () -> {
            Patchstore x = ring();
            due("<a|b=c>", x.shown(0, 0));
            due(4, x.tell(0, 1, 0));
            due("1>0", x.edits(4));
            due(1, x.ofChange(4, 8));
            x.putAll(2, 4);
            due("<a|b>", x.shown(2, 0));
            due(1, x.sides(2, 0, 0));
        });
        edge("if there is a WAY from it to that, and none from that to it", () -> {
            Patchstore x = ring();
            for (int line = 0; line < 3; line++) {
                due(false, x.isAhead(0, line, (line + 1) % 3));
                due(false, x.isAhead(0, line, (line + 2) % 3));
            }
            due(true, x.isAhead(1, 2, 0));
        });
        edge("Two LIVE LINES of one PART are UNSURE, if neither is AHEAD of the other.", () -> {
            Patchstore x = threeFree();
            due(1, x.ofPart(0, 0, 5));
            due(0, x.ofPart(0, 1, 5));
            due(3, ring().ofPart(0, 0, 5));
            x.kill(0, 0);
            due(0, x.ofPart(0, 0, 5));
            due("c", x.shown(0, 0));
        });
    }

    private static void knots() {
        edge("all that it is UNSURE with, all that these are UNSURE with, and so on", () -> {
            Patchstore x = fourUnsure();
            due(3, x.ofPart(0, 0, 5));
            due(1, x.ofPart(0, 0, 2));
            due(4, x.ofPart(0, 0, 4));
            due("<x|z=y|w>", x.shown(0, 0));
        });
        edge("(each LINE of one is AHEAD of each LINE of a later one)", () -> {
            Patchstore x = fourUnsure();
            x.tell(0, 2, 1);
            due("<x=y>|<z=w>", x.shown(0, 0));
            int[] lines = {0, 2, 1, 3};
            for (int place = 0; place < 4; place++) {
                due(lines[place], x.at(0, 0, place, 0));
                due(place / 2, x.at(0, 0, place, 4));
                due(true, x.isAhead(0, lines[place / 2], lines[2 + place % 2]));
            }
        });
        edge("A CLASH is a KNOT of two LINES or more", () -> {
            Patchstore x = fresh();
            record(x, 0, 0, "a");
            due(0, x.ofPart(0, 0, 3));
            record(x, 1, 0, "b");
            x.pull(0, 1);
            due(1, x.ofPart(0, 0, 3));
            due(2, x.sides(0, 0, 0));
        });
        edge("the CLASHES of a PART are numbered from 0 in their row", () -> {
            Patchstore x = fourUnsure();
            x.tell(0, 2, 1);
            due("x", x.side(0, 0, 0, 0));
            due("z", x.side(0, 0, 1, 0));
            due(0, x.sides(0, 0, 2));
            Patchstore behind = threeSides();
            due(1, behind.at(0, 0, 1, 4));
            due("x", behind.side(0, 0, 0, 0));
        });
        edge("its LINES that were put in by the same CHANGE are one, by rising numbers of the CHANGES", () -> {
            Patchstore x = threeSides();
            x.pull(2, 0);
            due(3, x.ordered(2, 1));
            due("x", x.side(2, 0, 0, 0));
            due("y|z", x.side(2, 0, 0, 1));
            due("w", x.side(2, 0, 0, 2));
        });
        edge("its LINES that were put in by the same CHANGE are one", () -> {
            Patchstore x = fresh();
            record(x, 0, 0, "ab");
            x.pull(1, 0);
            x.move(0, 0, 0, 1, 1);
            x.move(1, 0, 0, 1, 1);
            x.pull(0, 1);
            due("b|<a=a>", x.shown(0, 0));
            due(2, x.sides(0, 0, 0));
            due("b0 a0 a0", x.blame(0, 0));
            due("-2", x.edits(x.settle(0, 0, 0, 1)));
        });
        edge("in a SIDE LINES stand by rising numbers", () -> {
            Patchstore x = fresh();
            record(x, 1, 0, "ca");
            record(x, 0, 0, "ab");
            x.pull(0, 1);
            due("<c|a=a|b>", x.shown(0, 0));
            due("c|a", x.side(0, 0, 0, 0));
            due("a|b", ring().side(0, 0, 0, 0));
        });
    }

    private static void shownText() {
        edge("KNOT by KNOT its LINES (of a CLASH SIDE by SIDE)", () -> {
            Patchstore x = threeSides();
            int[] lines = {0, 2, 3, 4, 5, 1};
            int[] knots = {0, 1, 1, 1, 1, 2};
            for (int place = 0; place < 6; place++) {
                due(lines[place], x.at(0, 0, place, 0));
                due(knots[place], x.at(0, 0, place, 4));
            }
        });
        edge("PLACES are counted from 0 in it", () -> {
            Patchstore x = straight();
            due(0, x.at(0, 0, 0, 0));
            due(2, x.at(0, 0, 2, 0));
            thrown(x, INDEX, () -> x.at(0, 0, 3, 0));
        });
        String words = "KNOT by KNOT, with \"|\" between two, the WORD of its LINE, or of a CLASH";
        edge(words, () -> due("", fresh().shown(0, 0)));
        edge(words, () -> due("a|b|c", straight().shown(0, 0)));
        edge(words, () -> due("<a=c>", threeFree().shown(0, 0)));
        edge(words, () -> due("b", threeFree().shown(0, 1)));
        edge(words, () -> {
            Patchstore x = ring();
            x.kill(0, 2);
            due("<a|b>", x.shown(0, 0));
        });
        edge("with \"=\" between two SIDES, \">\" (\"a|<b|c=d>|e\")", () -> {
            Patchstore x = fresh();
            record(x, 0, 0, "ae");
            x.pull(1, 0);
            record(x, 0, 0, "abce");
            record(x, 1, 0, "ade");
            x.pull(0, 1);
            due("a|<b|c=d>|e", x.shown(0, 0));
            x.kill(0, 0);
            due("<b|c=d>|e", x.shown(0, 0));
            x.kill(0, 1);
            due("<b|c=d>", x.shown(0, 0));
        });
    }

    private static void names() {
        edge("those that no other one of the set FOLLOWS are its HEADS", () -> {
            Patchstore x = fresh();
            x.name(0, 0, 5);
            x.name(0, 0, 6);
            due(6, x.nameOf(0, 0));
            x.take(0, 1);
            due(5, x.nameOf(0, 0));
        });
        edge("Without HEADS the NAME is the number of the PART", () -> {
            Patchstore x = fresh();
            due(0, x.nameOf(0, 0));
            due(1, x.nameOf(0, 1));
            x.name(0, 1, 6);
            due(0, x.nameOf(0, 0));
            x.take(0, 0);
            due(1, x.nameOf(0, 1));
        });
        edge("if all HEADS have the same NAME, it is that", () -> {
            Patchstore x = fresh();
            x.name(0, 1, 7);
            x.name(1, 1, 7);
            x.pull(0, 1);
            due(7, x.nameOf(0, 1));
        });
        edge("otherwise the NAMES CLASH", () -> {
            Patchstore x = fresh();
            x.name(0, 0, 5);
            x.name(0, 0, 0);
            x.name(1, 0, 5);
            x.pull(0, 1);
            due(-2, x.nameOf(0, 0));
            due(1, x.nameOf(0, 1));
            x.take(0, 1);
            due(5, x.nameOf(0, 0));
        });
    }
}
