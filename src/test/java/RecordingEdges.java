/** The edges of the document's section 3 and of promises 1 to 12: the draft and what is recorded. */
final class RecordingEdges extends Edges {
    private RecordingEdges() { }

    static void run() {
        refusedChanges();
        refusedLines();
        cantAhead();
        script();
        newLines();
        newObject();
        type();
        erase();
        load();
        draft();
        record();
        kill();
        revive();
        tell();
        name();
        settle();
        moves();
        moveRefused();
    }

    /** threeSides() with line 1 dead in store 1, unlike names and 24 changes: each recording call could be done. */
    private static Patchstore full() {
        Patchstore x = threeSides();
        x.kill(1, 1);
        fillChanges(x);
        return x;
    }

    private static void refusedChanges() {
        of("3");
        edge("What is recorded in a STORE becomes a new CHANGE, which comes to the end of its ORDER", () -> {
            Patchstore x = threeSides();
            Call[] calls = {() -> x.tell(0, 5, 2), () -> x.settle(0, 0, 0, 0), () -> x.kill(0, 0),
                () -> x.revive(0, 0), () -> x.name(0, 1, 5), () -> x.move(0, 0, 0, 1, 1), () -> x.record(0, 1)};
            for (int k = 0; k < calls.length; k++) {
                due(4 + k, calls[k].answer());
                due(4 + k, x.ofStore(0, 4));
                due(5 + k, x.ofStore(0, 0));
                due(5 + k, x.house(1));
            }
            due(2, x.ofStore(1, 0));
            due(2, x.ofStore(2, 0));
        });
        String words = "this is REFUSED by an exception (IllegalState) if there are 24 CHANGES";
        Patchstore x = full();
        edge(words, () -> thrown(x, STATE, () -> x.record(0, 1)));
        edge(words, () -> thrown(x, STATE, () -> x.kill(0, 0)));
        edge(words, () -> thrown(x, STATE, () -> x.revive(1, 1)));
        edge(words, () -> thrown(x, STATE, () -> x.tell(0, 2, 5)));
        edge(words, () -> thrown(x, STATE, () -> x.name(0, 0, 9)));
        edge(words, () -> thrown(x, STATE, () -> x.settle(0, 0, 0, 0)));
        edge(words, () -> thrown(x, STATE, () -> x.move(1, 0, 0, 1, 1)));
        edge(words, () -> {
            Patchstore last = straight();
            for (int k = 3; k < 23; k++) {
                last.name(0, 1, k);
            }
            due(23, last.house(1));
            due(23, last.kill(0, 0));
            thrown(last, STATE, () -> last.kill(0, 1));
        });
    }

    private static void refusedLines() {
        String words = "or there would be more than 60 LINES";
        edge(words, () -> {
            Patchstore x = plain(59);
            write(x, "cdefghijkl");
            thrown(x, STATE, () -> x.record(0, 0));
            due(6, record(x, 0, 0, "bcdefghijk"));
            due(60, x.house(0));
            thrown(x, STATE, () -> x.move(0, 0, 0, 1, 1));
            due(7, record(x, 0, 0, "cdefghijk"));
        });
        edge(words, () -> {
            Patchstore x = plain(59);
            due(6, record(x, 0, 0, "abcdefghik"));
            due("-9 +59", x.edits(6));
            Patchstore last = plain(59);
            due(6, record(last, 0, 0, "kabcdefghi"));
            due("+59 -9", last.edits(6));
        });
        edge(words, () -> {
            Patchstore x = plain(60);
            x.pull(0, 1);
            due(6, x.settle(0, 0, 0, 1));
            due(7, x.revive(0, 0));
            due(8, x.kill(0, 20));
            due(9, x.tell(0, 0, 21));
            due(10, x.name(0, 0, 5));
            due(60, x.house(0));
        });
        edge(words, () -> {
            Patchstore x = plain(58);
            thrown(x, STATE, () -> x.move(0, 0, 0, 3, 1));
            due(6, x.move(0, 0, 0, 2, 1));
            due(60, x.house(0));
            thrown(x, STATE, () -> x.move(0, 0, 0, 1, 1));
        });
        edge(words, () -> {
            Patchstore x = plain(60);
            thrown(x, STATE, () -> x.move(2, 1, 9, 10, 0));
            write(x, "bcdefghijk");
            thrown(x, STATE, () -> x.record(2, 1));
            due(6, x.kill(2, 51));
            due(60, x.house(0));
        });
    }

    private static void cantAhead() {
        String words = "that a call can't be done is looked at ahead of that";
        Patchstore x = full();
        edge(words, () -> cant(x, () -> x.record(0, 0)));
        edge(words, () -> cant(x, () -> x.kill(1, 1)));
        edge(words, () -> cant(x, () -> x.revive(1, 0)));
        edge(words, () -> cant(x, () -> x.tell(0, 0, 1)));
        edge(words, () -> cant(x, () -> x.name(0, 0, 0)));
        edge(words, () -> cant(x, () -> x.settle(0, 0, 0, 3)));
        edge(words, () -> cant(x, () -> x.settle(0, 0, 1, 0)));
        edge(words, () -> cant(x, () -> x.move(1, 0, 0, 1, 0)));
        edge(words, () -> cant(x, () -> x.move(0, 0, 0, 1, 1)));
        edge(words, () -> {
            write(x, "ayz");
            cant(x, () -> x.record(1, 0));
        });
        edge(words, () -> {
            Patchstore lines = plain(60);
            lines.pull(0, 1);
            cant(lines, () -> lines.move(0, 0, 0, 1, 1));
            cant(lines, () -> lines.record(0, 0));
            cant(lines, () -> lines.move(2, 0, 0, 1, 0));
            cant(lines, () -> lines.record(2, 0));
        });
        edge("kill(), revive(), tell(), name(), settle() and move() record as they say.", () -> {
            Patchstore y = threeSides();
            due("-0", y.edits(y.kill(0, 0)));
            due("^0", y.edits(y.revive(0, 0)));
            due("5>2", y.edits(y.tell(0, 5, 2)));
            due("=c", y.edits(y.name(0, 0, 2)));
            due("-2 -5", y.edits(y.settle(0, 0, 0, 1)));
            due("-0 +6", y.edits(y.move(0, 0, 0, 1, 1)));
        });
    }

    /** What a part that shows the row records to become the draft; its lines are numbered from 0 in their row. */
    private static void scriptOf(String row, String draft, String edits) {
        Patchstore x = fresh();
        record(x, 0, 0, row);
        int change = record(x, 0, 0, draft);
        due(edits, x.edits(change));
        due(String.join("|", draft.split("")), x.shown(0, 0));
    }

    private static void script() {
        edge("a PART becomes the DRAFT", () -> {
            Patchstore x = straight();
            record(x, 0, 0, "xbcay");
            due("x|b|c|a|y", x.shown(0, 0));
            due("", x.shown(0, 1));
        });
        edge("It can't be done, if the PART has a CLASH there", () -> {
            Patchstore x = threeSides();
            write(x, "axyzwc");
            cant(x, () -> x.record(0, 0));
            due(4, x.record(0, 1));
            due(5, x.record(1, 0));
        });
        String same = "or its SHOWN WORDS are those of the DRAFT";
        edge(same, () -> {
            Patchstore x = fresh();
            cant(x, () -> x.record(0, 0));
        });
        edge(same, () -> {
            Patchstore x = straight();
            cant(x, () -> x.record(0, 0));
            due(3, record(x, 0, 0, "ab"));
            due(4, record(x, 0, 0, "ac"));
            due(5, record(x, 0, 0, "ca"));
            cant(x, () -> x.record(0, 0));
        });
        edge("The SCRIPT of the ROW and the DRAFT goes by steps, with i and j, 0 and 0 at first.",
            () -> scriptOf("abc", "bxcy", "-0 +3 +4"));
        edge("LONGEST of i and j is how many WORDS at most can be taken", () -> scriptOf("abcb", "bcab", "-0 +4"));
        edge("If both have one at i and j, with the same WORD, that LINE STAYS", () -> {
            scriptOf("aab", "ab", "-1");
            scriptOf("ab", "aab", "+2");
        });
        edge("the DRAFT has none at j", () -> {
            scriptOf("abc", "a", "-1 -2");
            Patchstore x = straight();
            due("-0 -1 -2", x.edits(record(x, 0, 0, "")));
        });
        edge("or LONGEST of i + 1 and j is no less than LONGEST of i and j + 1", () -> {
            scriptOf("ab", "ba", "-0 +2");
            scriptOf("abcd", "dcba", "-0 -1 -2 +4 +5 +6");
            scriptOf("a", "b", "-0 +1");
        });
        edge("Otherwise the WORD at j comes IN as a new LINE", () -> {
            scriptOf("ab", "xaby", "+2 +3");
            scriptOf("abc", "cab", "+3 -2");
        });
        edge("if the ROW has one at i", () -> scriptOf("a", "abc", "+1 +2"));
        edge("The EDITS stand in the order of the steps.", () -> scriptOf("abcd", "xbydz", "-0 +4 -2 +5 +6"));
    }

    private static void upAndDown(Patchstore x, int line, int up, int down) {
        due(up, x.ofLine(line, 3));
        due(down, x.ofLine(line, 4));
    }

    private static void newLines() {
        String up = "the LINE that is ahead of it then (the last one that STAYS or came IN, NONE without)";
        edge(up, () -> {
            Patchstore x = straight();
            record(x, 0, 0, "xybz");
            due("-0 +3 +4 -2 +5", x.edits(3));
            upAndDown(x, 3, NONE, 1);
            upAndDown(x, 4, 3, 1);
            upAndDown(x, 5, 1, NONE);
        });
        edge(up, () -> {
            Patchstore x = straight();
            record(x, 0, 0, "d");
            upAndDown(x, 3, NONE, NONE);
            due(1, x.ofChange(3, 2));
            due(7, x.ofChange(3, 7));
        });
        edge("DOWN the next LINE behind that STAYS (NONE without)", () -> {
            Patchstore x = straight();
            record(x, 0, 0, "axc");
            due("-1 +3", x.edits(3));
            upAndDown(x, 3, 0, 2);
            record(x, 0, 0, "axcy");
            upAndDown(x, 4, 2, NONE);
        });
        edge("DOWN the next LINE behind that STAYS (NONE without)", () -> {
            Patchstore x = fresh();
            record(x, 0, 1, "a");
            record(x, 0, 0, "b");
            due(NONE, x.ofLine(1, 4));
            record(x, 0, 0, "cb");
            upAndDown(x, 2, NONE, 1);
        });
        edge("The DRAFT is a row of at most 10 WORDS, empty at first.", () -> {
            Patchstore x = fresh();
            due("", x.draft());
            write(x, "abcdefghij");
            thrown(x, STATE, () -> x.type(5, 0));
            due(10, x.house(4));
        });
    }

    private static void newObject() {
        of("P1");
        edge("Creates three empty stores.", () -> {
            Patchstore x = fresh();
            for (int store = 0; store <= 2; store++) {
                int[] due = {0, 0, 0, NONE, NONE};
                for (int what = 0; what <= 4; what++) {
                    due(due[what], x.ofStore(store, what));
                }
                for (int what = 0; what <= 5; what++) {
                    due(0, x.ofPart(store, 0, what));
                    due(0, x.ofPart(store, 1, what));
                }
            }
        });
        edge("Creates three empty stores.", () -> {
            Patchstore one = straight();
            one.knock();
            one.tag(0);
            one.walk(0);
            Patchstore other = fresh();
            for (int what = 0; what <= 4; what++) {
                due(0, other.house(what));
            }
            due(NONE, other.walked(0));
            due("", other.draft());
            due("", other.shown(0, 0));
        });
    }

    private static void type() {
        of("P2");
        edge("A WORD comes into the DRAFT; those there and behind move by one.", () -> {
            Patchstore x = fresh();
            x.type(0, 1);
            x.type(0, 0);
            due("ab", x.draft());
            x.type(2, 3);
            x.type(1, 4);
            due("aebd", x.draft());
        });
        edge("the place that it has then", () -> {
            Patchstore x = fresh();
            write(x, "abcdefghi");
            x.type(9, 25);
            due("abcdefghiz", x.draft());
        });
        edge("Returns how many WORDS it has then.", () -> {
            Patchstore x = fresh();
            for (int k = 0; k < 10; k++) {
                due(k + 1, x.type(0, k));
            }
        });
        String index = "Throws `IndexOutOfBoundsException` if place is not 0 to how many WORDS it has";
        edge(index, () -> {
            Patchstore x = fresh();
            outside(x, INDEX, 0, 0, value -> x.type(value, 0));
            due(1, x.type(0, 0));
            outside(x, INDEX, 0, 1, value -> x.type(value, 0));
            due(2, x.type(1, 0));
        });
        edge(index, () -> {
            Patchstore x = fresh();
            write(x, "abcdefghij");
            outside(x, INDEX, 0, 10, value -> x.type(value, 26));
        });
        edge("Throws `IllegalArgumentException` if word is not 0 to 25", () -> {
            Patchstore x = fresh();
            outside(x, ARGUMENT, 0, 25, value -> x.type(0, value));
            due(1, x.type(0, 0));
            due(2, x.type(0, 25));
            write(x, "abcdefghij");
            outside(x, ARGUMENT, 0, 25, value -> x.type(10, value));
        });
        edge("Throws `IllegalStateException` if it has 10", () -> {
            Patchstore x = fresh();
            write(x, "abcdefghi");
            due(10, x.type(0, 25));
            for (int place = 0; place <= 10; place += 5) {
                int there = place;
                thrown(x, STATE, () -> x.type(there, 25));
            }
            x.erase(4);
            due(10, x.type(10 - 1, 25));
        });
    }

    private static void erase() {
        of("P3");
        edge("A WORD goes from the DRAFT.", () -> {
            Patchstore x = fresh();
            write(x, "abcd");
            x.erase(1);
            due("acd", x.draft());
            x.erase(0);
            due("cd", x.draft());
            x.erase(1);
            due("c", x.draft());
            x.erase(0);
            due("", x.draft());
        });
        edge("Returns that WORD.", () -> {
            Patchstore x = fresh();
            write(x, "azbc");
            due(25, x.erase(1));
            due(2, x.erase(2));
            due(0, x.erase(0));
        });
        edge("Throws `IndexOutOfBoundsException` if no WORD is there", () -> {
            Patchstore x = fresh();
            outside(x, INDEX, 0, -1, x::erase);
            write(x, "ab");
            outside(x, INDEX, 0, 1, x::erase);
            due(1, x.erase(1));
            thrown(x, INDEX, () -> x.erase(1));
            write(x, "abcdefghij");
            thrown(x, INDEX, () -> x.erase(10));
            due(9, x.erase(9));
        });
    }

    private static void load() {
        of("P4");
        edge("The DRAFT becomes the WORDS of the ROW of a PART.", () -> {
            Patchstore x = straight();
            x.kill(0, 1);
            write(x, "qrs");
            due(2, x.load(0, 0));
            due("ac", x.draft());
            due(0, x.load(0, 1));
            due("", x.draft());
        });
        edge("It is LET; it can't be done, if the PART has a CLASH", () -> {
            Patchstore x = threeSides();
            write(x, "q");
            cant(x, () -> x.load(0, 0));
            due(4, x.load(1, 0));
            due("ayzc", x.draft());
            due(0, x.load(0, 1));
        });
        edge("or more than 10 LINES in its ROW", () -> {
            Patchstore x = elevenLines();
            cant(x, () -> x.load(0, 0));
            x.kill(0, 10);
            due(10, x.load(0, 0));
            due("abcdefghij", x.draft());
        });
        edge("Returns how many WORDS it has then; -9 if it can't be done.", () -> {
            Patchstore x = straight();
            due(3, x.load(0, 0));
            due(0, x.load(2, 0));
            due(CANT, elevenLines().load(0, 0));
        });
        edge("Throws `IndexOutOfBoundsException` if store is not 0 to 2, or part not 0 or 1", () -> {
            Patchstore x = elevenLines();
            outside(x, INDEX, 0, 2, value -> x.load(value, 0));
            outside(x, INDEX, 0, 1, value -> x.load(0, value));
            due(0, x.load(2, 1));
        });
    }

    private static void draft() {
        of("P5");
        edge("Returns the WORDS of the DRAFT as letters, one behind the other.", () -> {
            Patchstore x = fresh();
            due("", x.draft());
            write(x, "zaz");
            due("zaz", x.draft());
            write(x, "abcdefghij");
            due("abcdefghij", x.draft());
        });
    }

    private static void record() {
        of("P6");
        edge("Records the DRAFT.", () -> {
            Patchstore x = fresh();
            write(x, "ab");
            due(0, x.record(2, 1));
            due("a|b", x.shown(2, 1));
            due("ab", x.draft());
        });
        edge("It is LET.", () -> {
            Patchstore x = straight();
            cant(x, () -> x.record(0, 0));
            Patchstore none = fresh();
            cant(none, () -> none.record(2, 1));
            Patchstore sides = threeSides();
            cant(sides, () -> sides.record(0, 0));
        });
        edge("Returns the number of the CHANGE; -9 if it can't be done.", () -> {
            Patchstore x = straight();
            due(3, x.record(1, 0));
            due(CANT, x.record(1, 0));
            due(4, x.record(1, 1));
        });
        edge("Throws `IndexOutOfBoundsException` if store is not 0 to 2, or part not 0 or 1", () -> {
            Patchstore x = straight();
            outside(x, INDEX, 0, 2, value -> x.record(value, 0));
            outside(x, INDEX, 0, 1, value -> x.record(0, value));
            due(3, x.record(2, 1));
        });
        edge("Throws `IllegalStateException` if there are 24 CHANGES, or there would be more than 60 LINES", () -> {
            Patchstore x = full();
            thrown(x, STATE, () -> x.record(2, 1));
            thrown(x, INDEX, () -> x.record(3, 1));
            thrown(x, INDEX, () -> x.record(2, 2));
            Patchstore lines = plain(55);
            write(lines, "klmnop");
            thrown(lines, STATE, () -> lines.record(0, 0));
            lines.erase(5);
            due(6, lines.record(0, 0));
            due(60, lines.house(0));
        });
    }

    private static void kill() {
        of("P7");
        edge("Records an OUT of a LINE.", () -> {
            Patchstore x = straight();
            x.kill(0, 1);
            due("-1", x.edits(3));
            due("a|c", x.shown(0, 0));
            due(0, x.ofChange(3, 0));
        });
        edge("It is LET; it can't be done, if that is not LIVE there", () -> {
            Patchstore x = straight();
            cant(x, () -> x.kill(1, 0));
            x.kill(0, 0);
            cant(x, () -> x.kill(0, 0));
            x.pull(1, 0);
            cant(x, () -> x.kill(1, 0));
            x.take(1, 3);
            due(4, x.kill(1, 0));
        });
        edge("Returns the number of the CHANGE; -9 if it can't be done.", () -> {
            Patchstore x = straight();
            due(3, x.kill(0, 2));
            due(CANT, x.kill(0, 2));
        });
        edge("Throws `IndexOutOfBoundsException` if store is not 0 to 2, or there is no such LINE", () -> {
            Patchstore x = straight();
            outside(x, INDEX, 0, 2, value -> x.kill(value, 0));
            outside(x, INDEX, 0, 2, value -> x.kill(0, value));
            due(3, x.kill(0, 2));
            Patchstore none = fresh();
            outside(none, INDEX, 0, -1, value -> none.kill(0, value));
        });
        edge("Throws `IllegalStateException` if there are 24 CHANGES", () -> {
            Patchstore x = full();
            thrown(x, STATE, () -> x.kill(0, 5));
            thrown(x, INDEX, () -> x.kill(3, 5));
            thrown(x, INDEX, () -> x.kill(0, 6));
            cant(x, () -> x.kill(1, 5));
        });
    }

    private static void revive() {
        of("P8");
        edge("Records a BACK of a LINE, which ENDS the OUTS of it by all CHANGES of the STORE that have one", () -> {
            Patchstore x = straight();
            x.pull(1, 0);
            x.kill(0, 1);
            x.kill(1, 1);
            x.pull(0, 1);
            due(5, x.revive(0, 1));
            due("^1", x.edits(5));
            due(2 + 8 + 16, x.ofChange(5, 7));
            due(2, x.state(0, 1));
            due(1, x.state(1, 1));
        });
        edge("(also those that are ENDED already)", () -> {
            Patchstore x = straight();
            x.kill(0, 0);
            x.revive(0, 0);
            x.kill(0, 0);
            due(6, x.revive(0, 0));
            due(1 + 8 + 32, x.ofChange(6, 7));
            x.take(0, 4);
            due(2, x.state(0, 0));
        });
        edge("It is LET; it can't be done, if the LINE is not DEAD there", () -> {
            Patchstore x = straight();
            cant(x, () -> x.revive(0, 0));
            cant(x, () -> x.revive(1, 0));
            x.kill(0, 0);
            cant(x, () -> x.revive(1, 0));
            x.pull(1, 0);
            due(4, x.revive(0, 0));
            cant(x, () -> x.revive(0, 0));
            due(5, x.revive(1, 0));
        });
        edge("Returns the number of the CHANGE; -9 if it can't be done.", () -> {
            Patchstore x = straight();
            due(CANT, x.revive(0, 2));
            x.kill(0, 2);
            due(4, x.revive(0, 2));
        });
        edge("Throws `IndexOutOfBoundsException` if store is not 0 to 2, or there is no such LINE", () -> {
            Patchstore x = straight();
            x.kill(0, 2);
            outside(x, INDEX, 0, 2, value -> x.revive(value, 2));
            outside(x, INDEX, 0, 2, value -> x.revive(0, value));
            due(4, x.revive(0, 2));
        });
        edge("Throws `IllegalStateException` if there are 24 CHANGES", () -> {
            Patchstore x = full();
            thrown(x, STATE, () -> x.revive(1, 1));
            thrown(x, INDEX, () -> x.revive(3, 1));
            thrown(x, INDEX, () -> x.revive(1, 6));
            cant(x, () -> x.revive(1, 0));
        });
    }

    private static void tell() {
        of("P9");
        edge("Records a TELL of two LINES, the one ahead of the other.", () -> {
            Patchstore x = threeFree();
            due(3, x.tell(0, 2, 0));
            due("2>0", x.edits(3));
            due("c|a", x.shown(0, 0));
            Patchstore other = threeFree();
            other.tell(0, 0, 2);
            due("a|c", other.shown(0, 0));
        });
        edge("It is LET; it can't be done, if these are not UNSURE there", () -> {
            Patchstore x = straight();
            cant(x, () -> x.tell(0, 0, 2));
            cant(x, () -> x.tell(0, 2, 0));
            cant(x, () -> x.tell(1, 0, 2));
            Patchstore told = threeFree();
            told.tell(0, 0, 2);
            cant(told, () -> told.tell(0, 0, 2));
            cant(told, () -> told.tell(0, 2, 0));
            due(4, ring().tell(0, 0, 1));
        });
        String if1 = "(so also if one is not LIVE, or they are not of one PART, or they are the same)";
        edge(if1, () -> {
            Patchstore x = threeFree();
            x.kill(0, 2);
            cant(x, () -> x.tell(0, 0, 2));
            cant(x, () -> x.tell(0, 2, 0));
            cant(x, () -> x.tell(1, 2, 0));
        });
        edge(if1, () -> {
            Patchstore x = threeFree();
            cant(x, () -> x.tell(0, 0, 1));
            cant(x, () -> x.tell(0, 1, 0));
        });
        edge(if1, () -> {
            Patchstore x = threeFree();
            cant(x, () -> x.tell(0, 0, 0));
            Patchstore round = ring();
            cant(round, () -> round.tell(0, 2, 2));
        });
        edge("Returns the number of the CHANGE; -9 if it can't be done.", () -> {
            Patchstore x = threeFree();
            due(3, x.tell(0, 0, 2));
            due(CANT, x.tell(0, 0, 2));
        });
        edge("Throws `IndexOutOfBoundsException` if store is not 0 to 2, or there is no such LINE as one or other",
            () -> {
                Patchstore x = threeFree();
                outside(x, INDEX, 0, 2, value -> x.tell(value, 0, 2));
                outside(x, INDEX, 0, 2, value -> x.tell(0, value, 0));
                outside(x, INDEX, 0, 2, value -> x.tell(0, 0, value));
            });
        edge("Throws `IllegalStateException` if there are 24 CHANGES", () -> {
            Patchstore x = full();
            thrown(x, STATE, () -> x.tell(0, 2, 3));
            thrown(x, INDEX, () -> x.tell(0, 2, 6));
            thrown(x, INDEX, () -> x.tell(0, -1, 3));
            cant(x, () -> x.tell(0, 3, 4));
        });
    }

    private static void name() {
        of("P10");
        edge("Records a NAME of a PART, which FOLLOWS all CHANGES of the STORE that have a NAME of it.", () -> {
            Patchstore x = fresh();
            x.name(0, 1, 5);
            x.name(0, 1, 6);
            x.name(1, 1, 7);
            x.name(0, 0, 8);
            due(0, x.ofChange(2, 7));
            x.pull(0, 1);
            due(4, x.name(0, 1, 9));
            due(1 + 2 + 4, x.ofChange(4, 7));
            due(9, x.nameOf(0, 1));
            due("=j", x.edits(4));
        });
        edge("It is LET; it can't be done, if that is its NAME there already", () -> {
            Patchstore x = fresh();
            x.name(0, 1, 5);
            cant(x, () -> x.name(0, 1, 5));
            due(1, x.name(1, 1, 5));
            due(2, x.name(0, 0, 5));
            due(3, x.name(0, 1, 1));
            cant(x, () -> x.name(0, 1, 1));
        });
        edge("(so at first 0 of PART 0, and 1 of PART 1)", () -> {
            Patchstore x = fresh();
            cant(x, () -> x.name(2, 0, 0));
            cant(x, () -> x.name(2, 1, 1));
            due(0, x.name(2, 0, 1));
            due(1, x.name(2, 1, 0));
        });
        edge("It is LET; it can't be done, if that is its NAME there already", () -> {
            Patchstore x = fresh();
            x.name(0, 0, 5);
            x.name(1, 0, 6);
            x.pull(0, 1);
            due(2, x.name(0, 0, 5));
            due(5, x.nameOf(0, 0));
        });
        edge("Returns the number of the CHANGE; -9 if it can't be done.", () -> {
            Patchstore x = straight();
            due(3, x.name(0, 0, 25));
            due(CANT, x.name(0, 0, 25));
        });
        edge("Throws `IndexOutOfBoundsException` if store is not 0 to 2, or part not 0 or 1", () -> {
            Patchstore x = fresh();
            outside(x, INDEX, 0, 2, value -> x.name(value, 0, 26));
            outside(x, INDEX, 0, 1, value -> x.name(0, value, -1));
        });
        edge("Throws `IllegalArgumentException` if word is not 0 to 25", () -> {
            Patchstore x = full();
            outside(x, ARGUMENT, 0, 25, value -> x.name(0, 0, value));
            Patchstore y = fresh();
            outside(y, ARGUMENT, 0, 25, value -> y.name(0, 1, value));
            due(0, y.name(0, 1, 0));
            due(1, y.name(0, 1, 25));
        });
        edge("Throws `IllegalStateException` if there are 24 CHANGES", () -> {
            Patchstore x = full();
            thrown(x, STATE, () -> x.name(2, 1, 25));
            cant(x, () -> x.name(2, 1, 1));
            thrown(x, INDEX, () -> x.name(2, 2, 25));
        });
    }

    private static void settle() {
        of("P11");
        edge("Records an OUT of each LINE of a CLASH that is not of one SIDE, in the order of the ROW", () -> {
            Patchstore x = threeSides();
            due(4, x.settle(0, 0, 0, 2));
            due("-2 -3 -4", x.edits(4));
            due("a|w|c", x.shown(0, 0));
        });
        edge("in the order of the ROW", () -> {
            Patchstore x = ring();
            record(x, 2, 0, "d");
            x.pull(0, 2);
            due("<a|b=c=d>", x.shown(0, 0));
            due("-0 -1 -3", x.edits(x.settle(0, 0, 0, 1)));
        });
        edge("(none, if that is the only SIDE: the CHANGE has no EDITS then)", () -> {
            Patchstore x = ring();
            x.kill(0, 2);
            due(5, x.settle(0, 0, 0, 0));
            due(0, x.ofChange(5, 1));
            due("", x.edits(5));
            due(0, x.ofChange(5, 7));
            due("<a|b>", x.shown(0, 0));
            due(5, x.ofStore(0, 4));
        });
        edge("It is LET; it can't be done, if there is no such CLASH, or SIDE", () -> {
            Patchstore x = threeSides();
            cant(x, () -> x.settle(0, 0, 1, 0));
            cant(x, () -> x.settle(0, 0, Integer.MAX_VALUE, 0));
            cant(x, () -> x.settle(0, 0, 0, 3));
            cant(x, () -> x.settle(0, 0, 0, Integer.MAX_VALUE));
            cant(x, () -> x.settle(0, 1, 0, 0));
            cant(x, () -> x.settle(1, 0, 0, 0));
            due(4, x.settle(0, 0, 0, 2));
            cant(x, () -> x.settle(0, 0, 0, 0));
        });
        edge("the SIDE that stays", () -> {
            Patchstore x = fourUnsure();
            x.tell(0, 2, 1);
            due("<x=y>|<z=w>", x.shown(0, 0));
            due(4, x.settle(0, 0, 1, 1));
            due("-1", x.edits(4));
            due("<x=y>|w", x.shown(0, 0));
        });
        edge("Returns the number of the CHANGE; -9 if it can't be done.", () -> {
            Patchstore x = threeSides();
            due(4, x.settle(0, 0, 0, 0));
            due(CANT, x.settle(0, 0, 0, 0));
        });
        edge("Throws `IndexOutOfBoundsException` if store is not 0 to 2, or part not 0 or 1", () -> {
            Patchstore x = threeSides();
            outside(x, INDEX, 0, 2, value -> x.settle(value, 0, -1, -1));
            outside(x, INDEX, 0, 1, value -> x.settle(0, value, -1, -1));
        });
        edge("Throws `IllegalArgumentException` if clash or side is below 0", () -> {
            Patchstore x = full();
            thrown(x, ARGUMENT, () -> x.settle(0, 0, -1, 0));
            thrown(x, ARGUMENT, () -> x.settle(0, 0, Integer.MIN_VALUE, 0));
            thrown(x, ARGUMENT, () -> x.settle(0, 0, 0, -1));
            thrown(x, ARGUMENT, () -> x.settle(0, 0, 0, Integer.MIN_VALUE));
            thrown(x, ARGUMENT, () -> x.settle(0, 1, -1, 0));
            thrown(x, ARGUMENT, () -> x.settle(0, 1, 0, -1));
        });
        edge("Throws `IllegalStateException` if there are 24 CHANGES", () -> {
            Patchstore x = full();
            thrown(x, STATE, () -> x.settle(0, 0, 0, 2));
            cant(x, () -> x.settle(0, 0, 0, 3));
        });
    }

    /** abcd, lines 0 to 3, in part 1 of store 0. */
    private static Patchstore abcd() {
        Patchstore x = fresh();
        record(x, 0, 1, "abcd");
        return x;
    }

    private static void moves() {
        of("P12");
        edge("LINE by LINE an OUT of it, then, LINE by LINE, an IN of a new one with the same WORD", () -> {
            Patchstore x = abcd();
            due(1, x.move(0, 1, 1, 4, 0));
            due("-1 -2 -3 +4 +5 +6", x.edits(1));
            due("b|c|d|a", x.shown(0, 1));
            for (int line = 4; line <= 6; line++) {
                due(line - 3, x.ofLine(line, 5));
                due(line - 3, x.ofLine(line, 1));
            }
        });
        edge("UP of the first one is the LINE of the others that is ahead then (NONE without)", () -> {
            Patchstore x = abcd();
            x.move(0, 1, 2, 3, 0);
            due(NONE, x.ofLine(4, 3));
            x.move(0, 1, 0, 1, 1);
            due("a|c|b|d", x.shown(0, 1));
            due(0, x.ofLine(5, 3));
            x.move(0, 1, 0, 1, 3);
            due(3, x.ofLine(6, 3));
        });
        edge("of each further one the new one ahead of it", () -> {
            Patchstore x = abcd();
            x.move(0, 1, 0, 3, 1);
            due("d|a|b|c", x.shown(0, 1));
            due(3, x.ofLine(4, 3));
            due(4, x.ofLine(5, 3));
            due(5, x.ofLine(6, 3));
        });
        edge("DOWN of all is the LINE of the others that is behind (NONE without)", () -> {
            Patchstore x = abcd();
            x.move(0, 1, 0, 2, 1);
            due("c|a|b|d", x.shown(0, 1));
            due(3, x.ofLine(4, 4));
            due(3, x.ofLine(5, 4));
            x.move(0, 1, 0, 1, 3);
            due(NONE, x.ofLine(6, 4));
            x.move(0, 1, 2, 4, 0);
            due("d|c|a|b", x.shown(0, 1));
            due(4, x.ofLine(7, 4));
            due(4, x.ofLine(8, 4));
        });
        edge("It is LET; it can't be done, if the PART has a CLASH, or place is from", () -> {
            Patchstore x = threeSides();
            cant(x, () -> x.move(0, 0, 0, 1, 1));
            due(4, x.move(1, 0, 0, 1, 1));
        });
        edge("or place is from", () -> {
            Patchstore x = abcd();
            cant(x, () -> x.move(0, 1, 0, 1, 0));
            cant(x, () -> x.move(0, 1, 3, 4, 3));
            cant(x, () -> x.move(0, 1, 1, 3, 1));
            cant(x, () -> x.move(0, 1, 0, 4, 0));
            due(1, x.move(0, 1, 1, 3, 2));
            due("a|d|b|c", x.shown(0, 1));
        });
        edge("Returns the number of the CHANGE; -9 if it can't be done.", () -> {
            Patchstore x = abcd();
            due(1, x.move(0, 1, 0, 1, 3));
            due(CANT, x.move(0, 1, 0, 1, 0));
        });
    }

    private static void moveRefused() {
        String index = "Throws `IndexOutOfBoundsException` if store is not 0 to 2, part not 0 or 1";
        edge(index, () -> {
            Patchstore x = abcd();
            outside(x, INDEX, 0, 2, value -> x.move(value, 1, 0, 1, 9));
            outside(x, INDEX, 0, 1, value -> x.move(0, value, 0, 1, 9));
        });
        edge("from not 0 to how many LINES the ROW has less 1", () -> {
            Patchstore x = abcd();
            outside(x, INDEX, 0, 3, value -> x.move(0, 1, value, 4, 9));
            outside(x, INDEX, 0, 3, value -> x.move(0, 1, value, value + 1, 0));
            outside(x, INDEX, 0, -1, value -> x.move(0, 0, value, 1, 0));
            due(1, x.move(0, 1, 3, 4, 0));
        });
        edge("or to not from + 1 to how many it has", () -> {
            Patchstore x = abcd();
            outside(x, INDEX, 1, 4, value -> x.move(0, 1, 0, value, 9));
            outside(x, INDEX, 3, 4, value -> x.move(0, 1, 2, value, 0));
            thrown(x, INDEX, () -> x.move(0, 1, 2, 1, 0));
            due(1, x.move(0, 1, 2, 4, 0));
            x.kill(0, 0);
            thrown(x, INDEX, () -> x.move(0, 1, 0, 4, 0));
        });
        edge("Throws `IllegalArgumentException` if place is not 0 to how many others there are", () -> {
            Patchstore x = abcd();
            outside(x, ARGUMENT, 0, 3, value -> x.move(0, 1, 1, 2, value));
            outside(x, ARGUMENT, 0, 1, value -> x.move(0, 1, 1, 4, value));
            outside(x, ARGUMENT, 0, 0, value -> x.move(0, 1, 0, 4, value));
            due(1, x.move(0, 1, 1, 4, 0));
            due(2, x.move(0, 1, 0, 1, 3));
        });
        String state = "Throws `IllegalStateException` if there are 24 CHANGES, or there would be more than 60 LINES";
        edge(state, () -> {
            Patchstore x = full();
            thrown(x, STATE, () -> x.move(1, 0, 0, 1, 1));
            cant(x, () -> x.move(1, 0, 0, 1, 0));
            thrown(x, ARGUMENT, () -> x.move(1, 0, 0, 1, 3));
            thrown(x, INDEX, () -> x.move(1, 0, 3, 4, 0));
        });
        edge(state, () -> {
            Patchstore x = plain(56);
            thrown(x, STATE, () -> x.move(0, 0, 2, 7, 0));
            cant(x, () -> x.move(0, 0, 2, 7, 2));
            due(6, x.move(0, 0, 2, 6, 0));
            due(60, x.house(0));
        });
    }
}
