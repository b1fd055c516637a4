import java.math.BigInteger;

/** The edges of promises 26 to 49: what is asked. */
final class AskingEdges extends Edges {
    private AskingEdges() { }

    static void run() {
        shown();
        ofPart();
        at();
        sides();
        side();
        blame();
        nameOf();
        state();
        isAhead();
        isAlike();
        ofLine();
        ofChange();
        edits();
        ofStore();
        ordered();
        lacks();
        wouldClash();
        search();
        taggedAndWalked();
        house();
        isSound();
        digest();
    }

    private static final String STORE_PART =
        "Throws `IndexOutOfBoundsException` if store is not 0 to 2, or part not 0 or 1";
    private static final String STORE_OTHER =
        "Throws `IndexOutOfBoundsException` if store or other is not 0 to 2";
    private static final String STORE = "Throws `IndexOutOfBoundsException` if store is not 0 to 2";

    private static void shown() {
        of("P26");
        edge("Returns SHOWN.", () -> {
            Patchstore x = threeSides();
            due("a|<x=y|z=w>|c", x.shown(0, 0));
            due("", x.shown(0, 1));
            due("a|w|c", x.shown(2, 0));
        });
        edge("Returns SHOWN.", () -> {
            Patchstore x = fresh();
            record(x, 0, 0, "m");
            x.pull(1, 0);
            record(x, 0, 0, "amx");
            record(x, 1, 0, "bmy");
            x.pull(0, 1);
            due("<a=b>|m|<x=y>", x.shown(0, 0));
            x.kill(0, 0);
            due("<a=b>|<x=y>", x.shown(0, 0));
            x.kill(0, 2);
            due("<a=b>|y", x.shown(0, 0));
        });
        edge("Returns SHOWN.", () -> {
            Patchstore x = sixtyRow();
            String row = x.shown(0, 0);
            due(119, row.length());
            due("a|b|c|d|e|f|g|h|i|j|", row.substring(0, 20));
            due("i|j", row.substring(116));
        });
        edge(STORE_PART, () -> {
            Patchstore x = threeSides();
            outside(x, INDEX, 0, 2, value -> x.shown(value, 0));
            outside(x, INDEX, 0, 1, value -> x.shown(0, value));
        });
    }

    private static void counts(Patchstore x, int... due) {
        for (int what = 0; what <= 5; what++) {
            due(due[what], x.ofPart(0, 0, what));
        }
    }

    private static void ofPart() {
        of("P27");
        edge("Returns how many there are.", () -> {
            Patchstore x = threeSides();
            counts(x, 6, 0, 3, 1, 4, 5);
            x.kill(0, 4);
            counts(x, 5, 1, 3, 1, 3, 3);
        });
        String what = "0 LIVE LINES, 1 DEAD ones, 2 KNOTS, 3 CLASHES, 4 LINES in CLASHES, 5 how many pairs of LINES"
            + " are UNSURE";
        edge(what, () -> counts(fresh(), 0, 0, 0, 0, 0, 0));
        edge(what, () -> counts(ring(), 3, 0, 1, 1, 3, 3));
        edge(what, () -> {
            Patchstore x = fourUnsure();
            counts(x, 4, 0, 1, 1, 4, 3);
            x.tell(0, 2, 1);
            counts(x, 4, 0, 2, 2, 4, 2);
            x.kill(0, 0);
            counts(x, 3, 1, 2, 1, 2, 1);
        });
        edge(what, () -> {
            Patchstore x = plain(60);
            x.pull(0, 1);
            x.pull(0, 2);
            counts(x, 30, 0, 1, 1, 30, 300);
        });
        edge(what, () -> counts(sixtyRow(), 60, 0, 60, 0, 0, 0));
        edge(STORE_PART, () -> {
            Patchstore x = threeSides();
            outside(x, INDEX, 0, 2, value -> x.ofPart(value, 0, 6));
            outside(x, INDEX, 0, 1, value -> x.ofPart(0, value, 6));
        });
        edge("Throws `IllegalArgumentException` if what is not 0 to 5", () -> {
            Patchstore x = threeSides();
            outside(x, ARGUMENT, 0, 5, value -> x.ofPart(0, 0, value));
        });
    }

    private static void at() {
        of("P28");
        String what = "0 the LINE there, 1 its WORD, 2 the CHANGE that put it in, 3 its WRITER, 4"
            + " the number of its KNOT";
        edge(what, () -> {
            Patchstore x = threeSides();
            x.kill(0, 0);
            x.move(1, 0, 0, 1, 1);
            int[][] row = {{2, 23, 1, 1, 0}, {3, 24, 2, 2, 0}, {4, 25, 2, 2, 0}, {5, 22, 3, 3, 0}, {1, 2, 0, 0, 1}};
            int[] moved = {6, 0, 5, 0, 1};
            for (int k = 0; k <= 4; k++) {
                for (int place = 0; place < 5; place++) {
                    due(row[place][k], x.at(0, 0, place, k));
                }
                due(moved[k], x.at(1, 0, 1, k));
            }
        });
        edge("Throws `IndexOutOfBoundsException` if store is not 0 to 2, part not 0 or 1, or nothing is there", () -> {
            Patchstore x = threeSides();
            outside(x, INDEX, 0, 2, value -> x.at(value, 0, 0, 0));
            outside(x, INDEX, 0, 1, value -> x.at(0, value, 0, 5));
        });
        edge("or nothing is there", () -> {
            Patchstore x = threeSides();
            outside(x, INDEX, 0, 5, value -> x.at(0, 0, value, 0));
            outside(x, INDEX, 0, -1, value -> x.at(0, 1, value, 0));
            x.kill(0, 0);
            outside(x, INDEX, 0, 4, value -> x.at(0, 0, value, -1));
        });
        edge("or nothing is there", () -> {
            Patchstore x = sixtyRow();
            outside(x, INDEX, 0, 59, value -> x.at(0, 0, value, 0));
            due(59, x.at(0, 0, 59, 0));
        });
        edge("Throws `IllegalArgumentException` if what is not 0 to 4", () -> {
            Patchstore x = threeSides();
            outside(x, ARGUMENT, 0, 4, value -> x.at(0, 0, 5, value));
        });
        edge("a PLACE of the ROW", () -> {
            Patchstore x = threeSides();
            due(0, x.at(0, 0, 0, 0));
            due(1, x.at(0, 0, 5, 0));
        });
        edge("Returns that.", () -> due(2, straight().at(0, 0, 2, 4)));
    }

    private static void sides() {
        of("P29");
        edge("Returns how many SIDES it has; 0, if there is no such CLASH.", () -> {
            Patchstore x = threeSides();
            due(3, x.sides(0, 0, 0));
            due(2, fourUnsure().sides(0, 0, 0));
            Patchstore round = ring();
            due(2, round.sides(0, 0, 0));
            round.kill(0, 2);
            due(1, round.sides(0, 0, 0));
        });
        edge("0, if there is no such CLASH", () -> {
            Patchstore x = threeSides();
            due(0, x.sides(0, 0, 1));
            due(0, x.sides(0, 0, Integer.MAX_VALUE));
            due(0, x.sides(1, 0, 0));
            due(0, x.sides(0, 1, 0));
        });
        edge(STORE_PART, () -> {
            Patchstore x = threeSides();
            outside(x, INDEX, 0, 2, value -> x.sides(value, 0, -1));
            outside(x, INDEX, 0, 1, value -> x.sides(0, value, -1));
        });
        edge("Throws `IllegalArgumentException` if clash is below 0", () -> {
            Patchstore x = threeSides();
            thrown(x, ARGUMENT, () -> x.sides(0, 0, -1));
            thrown(x, ARGUMENT, () -> x.sides(0, 1, -1));
            thrown(x, ARGUMENT, () -> x.sides(0, 0, Integer.MIN_VALUE));
        });
    }

    private static void side() {
        of("P30");
        edge("Returns its WORDS with \"|\" between two; \"\" if there is none.", () -> {
            Patchstore x = threeSides();
            due("x", x.side(0, 0, 0, 0));
            due("y|z", x.side(0, 0, 0, 1));
            due("w", x.side(0, 0, 0, 2));
        });
        edge("\"\" if there is none", () -> {
            Patchstore x = threeSides();
            due("", x.side(0, 0, 0, 3));
            due("", x.side(0, 0, 1, 0));
            due("", x.side(0, 0, Integer.MAX_VALUE, Integer.MAX_VALUE));
            due("", x.side(1, 0, 0, 0));
            due("", x.side(0, 1, 0, 0));
        });
        edge(STORE_PART, () -> {
            Patchstore x = threeSides();
            outside(x, INDEX, 0, 2, value -> x.side(value, 0, -1, -1));
            outside(x, INDEX, 0, 1, value -> x.side(0, value, 0, -1));
        });
        edge("Throws `IllegalArgumentException` if clash or side is below 0", () -> {
            Patchstore x = threeSides();
            thrown(x, ARGUMENT, () -> x.side(0, 0, -1, 0));
            thrown(x, ARGUMENT, () -> x.side(0, 0, 0, -1));
            thrown(x, ARGUMENT, () -> x.side(0, 1, Integer.MIN_VALUE, 0));
            thrown(x, ARGUMENT, () -> x.side(0, 1, 0, Integer.MIN_VALUE));
        });
    }

    private static void blame() {
        of("P31");
        edge("Returns PLACE by PLACE of the ROW the WORD and the number of the WRITER", () -> {
            Patchstore x = threeSides();
            due("a0 x1 y2 z2 w3 c0", x.blame(0, 0));
            x.move(1, 0, 0, 1, 3);
            due("y2 z2 c0 a0", x.blame(1, 0));
        });
        edge("with a blank between two (\"a0 b0 c3\")", () -> {
            Patchstore x = fresh();
            due("", x.blame(0, 0));
            record(x, 0, 0, "ab");
            x.name(0, 0, 5);
            x.name(0, 0, 6);
            record(x, 0, 0, "abc");
            due("a0 b0 c3", x.blame(0, 0));
        });
        edge("the number of the WRITER", () -> {
            Patchstore x = fresh();
            for (int k = 0; k < 23; k++) {
                x.name(0, 1, 2 + k);
            }
            record(x, 0, 0, "zz");
            due("z23 z23", x.blame(0, 0));
        });
        edge(STORE_PART, () -> {
            Patchstore x = threeSides();
            outside(x, INDEX, 0, 2, value -> x.blame(value, 0));
            outside(x, INDEX, 0, 1, value -> x.blame(0, value));
        });
    }

    private static void nameOf() {
        of("P32");
        edge("Returns the NAME of the PART; -2, if the NAMES CLASH.", () -> {
            Patchstore x = fresh();
            due(0, x.nameOf(2, 0));
            due(1, x.nameOf(2, 1));
            x.name(2, 0, 25);
            due(25, x.nameOf(2, 0));
            due(0, x.nameOf(1, 0));
        });
        edge("-2, if the NAMES CLASH", () -> {
            Patchstore x = fresh();
            x.name(0, 0, 7);
            x.name(1, 0, 8);
            x.name(2, 0, 7);
            x.pull(2, 0);
            due(7, x.nameOf(2, 0));
            x.pull(2, 1);
            due(-2, x.nameOf(2, 0));
            x.name(2, 0, 0);
            due(0, x.nameOf(2, 0));
            x.take(2, 3);
            x.take(2, 1);
            due(7, x.nameOf(2, 0));
        });
        edge(STORE_PART, () -> {
            Patchstore x = fresh();
            outside(x, INDEX, 0, 2, value -> x.nameOf(value, 0));
            outside(x, INDEX, 0, 1, value -> x.nameOf(0, value));
        });
    }

    private static void state() {
        of("P33");
        edge("Returns 0 if the LINE is not THERE, 1 if it is DEAD, 2 if it is LIVE.", () -> {
            Patchstore x = straight();
            due(0, x.state(1, 2));
            due(2, x.state(0, 2));
            x.kill(0, 2);
            due(1, x.state(0, 2));
            due(2, x.state(0, 1));
            x.takeAll(0, 2);
            due(0, x.state(0, 2));
        });
        edge("Throws `IndexOutOfBoundsException` if store is not 0 to 2, or there is no such LINE", () -> {
            Patchstore x = straight();
            outside(x, INDEX, 0, 2, value -> x.state(value, 0));
            outside(x, INDEX, 0, 2, value -> x.state(0, value));
            Patchstore all = plain(60);
            outside(all, INDEX, 0, 59, value -> all.state(0, value));
            due(2, all.state(2, 59));
            due(0, all.state(0, 59));
        });
    }

    private static void isAhead() {
        of("P34");
        edge("Returns whether the one is AHEAD of the other there (never, if one is not THERE).", () -> {
            Patchstore x = threeSides();
            due(true, x.isAhead(0, 0, 5));
            due(false, x.isAhead(0, 5, 0));
            due(true, x.isAhead(0, 3, 4));
            due(false, x.isAhead(0, 2, 3));
            due(false, x.isAhead(0, 3, 2));
        });
        edge("(never, if one is not THERE)", () -> {
            Patchstore x = threeSides();
            due(false, x.isAhead(1, 0, 2));
            due(false, x.isAhead(1, 2, 1));
            due(true, x.isAhead(0, 2, 1));
            x.takeAll(2, 0);
            due(false, x.isAhead(2, 0, 1));
        });
        edge("(it may be the same)", () -> {
            Patchstore x = straight();
            due(false, x.isAhead(0, 0, 0));
            due(false, x.isAhead(1, 0, 0));
            due(false, ring().isAhead(0, 0, 0));
        });
        edge("Returns whether the one is AHEAD of the other there", () -> {
            Patchstore x = straight();
            record(x, 0, 1, "q");
            due(false, x.isAhead(0, 0, 3));
            due(false, x.isAhead(0, 3, 0));
        });
        edge("Throws `IndexOutOfBoundsException` if store is not 0 to 2, or there is no such LINE as one or other",
            () -> {
                Patchstore x = straight();
                outside(x, INDEX, 0, 2, value -> x.isAhead(value, 0, 1));
                outside(x, INDEX, 0, 2, value -> x.isAhead(0, value, 1));
                outside(x, INDEX, 0, 2, value -> x.isAhead(0, 0, value));
            });
    }

    private static void isAlike() {
        of("P35");
        edge("Returns whether both have SHOWN the same of each PART.", () -> {
            Patchstore x = fresh();
            due(true, x.isAlike(0, 2));
            record(x, 0, 0, "ab");
            due(false, x.isAlike(0, 2));
            due(false, x.isAlike(2, 0));
            record(x, 2, 0, "ab");
            due(true, x.isAlike(0, 2));
        });
        edge("the same of each PART", () -> {
            Patchstore x = fresh();
            record(x, 0, 1, "a");
            due(false, x.isAlike(0, 1));
            record(x, 1, 0, "a");
            due(false, x.isAlike(0, 1));
            record(x, 0, 0, "a");
            due(false, x.isAlike(0, 1));
            record(x, 1, 1, "b");
            due(false, x.isAlike(0, 1));
            record(x, 1, 1, "a");
            due(true, x.isAlike(0, 1));
        });
        edge("both have SHOWN the same", () -> {
            Patchstore x = threeFree();
            record(x, 2, 0, "ac");
            record(x, 2, 1, "b");
            due(false, x.isAlike(0, 2));
            x.tell(0, 0, 2);
            due(true, x.isAlike(0, 2));
            x.name(0, 0, 7);
            due(true, x.isAlike(0, 2));
        });
        edge("a STORE (it may be the same)", () -> {
            Patchstore x = threeSides();
            for (int store = 0; store <= 2; store++) {
                due(true, x.isAlike(store, store));
            }
        });
        edge(STORE_OTHER, () -> {
            Patchstore x = straight();
            outside(x, INDEX, 0, 2, value -> x.isAlike(value, 0));
            outside(x, INDEX, 0, 2, value -> x.isAlike(0, value));
        });
    }

    private static void ofLine() {
        of("P36");
        edge("0 PART, 1 WORD, 2 the CHANGE that put it in, 3 UP, 4 DOWN, 5 FORMER, 6 WRITER", () -> {
            Patchstore x = fresh();
            record(x, 0, 1, "ac");
            record(x, 0, 1, "abc");
            x.move(0, 1, 0, 1, 1);
            int[][] lines = {{1, 0, 0, NONE, NONE, NONE, 0}, {1, 2, 0, 0, NONE, NONE, 0}, {1, 1, 1, 0, 1, NONE, 1},
                {1, 0, 2, 2, 1, 0, 0}};
            for (int line = 0; line < 4; line++) {
                for (int what = 0; what <= 6; what++) {
                    due(lines[line][what], x.ofLine(line, what));
                }
            }
        });
        edge("Throws `IndexOutOfBoundsException` if there is no such LINE", () -> {
            Patchstore none = fresh();
            outside(none, INDEX, 0, -1, value -> none.ofLine(value, 7));
            Patchstore x = plain(60);
            outside(x, INDEX, 0, 59, value -> x.ofLine(value, 0));
            due(9, x.ofLine(59, 1));
            x.takeAll(2, 5);
            due(9, x.ofLine(59, 1));
        });
        edge("Throws `IllegalArgumentException` if what is not 0 to 6", () -> {
            Patchstore x = straight();
            outside(x, ARGUMENT, 0, 6, value -> x.ofLine(2, value));
        });
        edge("Returns that.", () -> due(2, straight().ofLine(2, 6)));
    }

    private static void facts(Patchstore x, int change, int... due) {
        for (int what = 0; what <= 9; what++) {
            due(due[what], x.ofChange(change, what));
        }
    }

    private static void ofChange() {
        of("P37");
        edge("0 PART, 1 how many EDITS, 2 INS, 3 OUTS, 4 BACKS, 5 TELLS, 6 its NAME (NONE without)", () -> {
            Patchstore x = fresh();
            record(x, 0, 1, "ab");
            record(x, 0, 1, "cdb");
            x.revive(0, 0);
            x.name(0, 1, 0);
            x.tell(0, 2, 0);
            facts(x, 0, 1, 2, 2, 0, 0, 0, NONE, 0, 0, 2 + 4 + 16);
            facts(x, 1, 1, 3, 2, 1, 0, 0, NONE, 1, 1, 4 + 16);
            facts(x, 2, 1, 1, 0, 0, 1, 0, NONE, 1 + 2, 1 + 2, 0);
            facts(x, 3, 1, 1, 0, 0, 0, 0, 0, 0, 0, 0);
            facts(x, 4, 1, 1, 0, 0, 0, 1, NONE, 1 + 2, 1 + 2, 0);
        });
        String sets = "7 the set of those that it HANGS on DIRECTLY, 8 of all that it HANGS on, 9 of"
            + " all that HANG on it";
        edge(sets, () -> {
            Patchstore x = straight();
            due(2, x.ofChange(2, 7));
            due(1 + 2, x.ofChange(2, 8));
            due(2 + 4, x.ofChange(0, 9));
            x.takeAll(0, 0);
            due(2 + 4, x.ofChange(0, 9));
        });
        edge("1 how many EDITS, 2 INS, 3 OUTS", () -> {
            Patchstore x = fresh();
            record(x, 0, 0, "abcdefghij");
            x.move(0, 0, 0, 9, 1);
            due(18, x.ofChange(1, 1));
            due(9, x.ofChange(1, 2));
            due(9, x.ofChange(1, 3));
            Patchstore row = sixtyRow();
            due(60, row.ofChange(record(row, 0, 0, ""), 3));
        });
        edge("Throws `IndexOutOfBoundsException` if there is no such CHANGE", () -> {
            Patchstore none = fresh();
            outside(none, INDEX, 0, -1, value -> none.ofChange(value, 10));
            Patchstore x = fresh();
            fillChanges(x);
            outside(x, INDEX, 0, 23, value -> x.ofChange(value, 0));
            due(1, x.ofChange(23, 1));
        });
        edge("Throws `IllegalArgumentException` if what is not 0 to 9", () -> {
            Patchstore x = straight();
            outside(x, ARGUMENT, 0, 9, value -> x.ofChange(2, value));
        });
        edge("Returns that.", () -> due(1, straight().ofChange(2, 2)));
    }

    private static void edits() {
        of("P38");
        edge("\"+\" and the LINE for IN", () -> {
            Patchstore x = straight();
            due("+0", x.edits(0));
            due("+2", x.edits(2));
        });
        edge("\"-\" and it for OUT", () -> {
            Patchstore x = straight();
            due("-2", x.edits(x.kill(0, 2)));
            Patchstore all = plain(60);
            due("-59", all.edits(all.kill(2, 59)));
            due("-19", all.edits(all.kill(0, 19)));
        });
        edge("\"^\" and it for BACK", () -> {
            Patchstore x = straight();
            x.kill(0, 2);
            due("^2", x.edits(x.revive(0, 2)));
            Patchstore all = plain(60);
            all.kill(2, 50);
            due("^50", all.edits(all.revive(2, 50)));
        });
        edge("the one, \">\" and the other for TELL", () -> {
            Patchstore x = threeFree();
            due("2>0", x.edits(x.tell(0, 2, 0)));
            Patchstore other = threeFree();
            due("0>2", other.edits(other.tell(0, 0, 2)));
            Patchstore all = plain(60);
            all.pull(1, 2);
            due("49>28", all.edits(all.tell(1, 49, 28)));
        });
        edge("\"=\" and the letter for NAME (\"-3 +7 +8\", \"4>2\")", () -> {
            Patchstore x = fresh();
            due("=a", x.edits(x.name(0, 1, 0)));
            due("=z", x.edits(x.name(0, 1, 25)));
        });
        edge("Returns its EDITS with a blank between two", () -> {
            Patchstore x = fresh();
            record(x, 0, 1, "abcdefghij");
            due("+0 +1 +2 +3 +4 +5 +6 +7 +8 +9", x.edits(0));
            x.move(0, 1, 0, 8, 1);
            due("-0 -1 -2 -3 -4 -5 -6 -7 +10 +11 +12 +13 +14 +15 +16 +17", x.edits(1));
            Patchstore round = ring();
            round.kill(0, 2);
            due("", round.edits(round.settle(0, 0, 0, 0)));
        });
        edge("Throws `IndexOutOfBoundsException` if there is no such CHANGE", () -> {
            Patchstore x = straight();
            outside(x, INDEX, 0, 2, x::edits);
            Patchstore none = fresh();
            outside(none, INDEX, 0, -1, none::edits);
        });
    }

    private static void ofStore() {
        of("P39");
        String what = "0 how many CHANGES, 1 their set, 2 how many of them nothing of the STORE HANGS on, 3 the first"
            + " one of the ORDER (NONE without), 4 the last one";
        edge(what, () -> {
            Patchstore x = chain();
            int[] all = {3, 7, 2, 0, 2};
            for (int k = 0; k <= 4; k++) {
                due(all[k], x.ofStore(0, k));
            }
            x.swap(0, 1);
            due(1, x.ofStore(0, 4));
            x.takeAll(0, 2);
            due(1 + 2, x.ofStore(0, 1));
            due(1, x.ofStore(0, 2));
        });
        edge("2 how many of them nothing of the STORE HANGS on", () -> {
            Patchstore x = threeFree();
            due(3, x.ofStore(0, 2));
            due(1, straight().ofStore(0, 2));
            Patchstore some = straight();
            some.putAll(1, 1);
            due(1, some.ofStore(1, 2));
            some.put(2, 0);
            due(1, some.ofStore(2, 2));
        });
        edge("(NONE without), 4 the last one", () -> {
            Patchstore x = chain();
            int[] none = {0, 0, 0, NONE, NONE};
            for (int k = 0; k <= 4; k++) {
                due(none[k], x.ofStore(1, k));
            }
            x.put(1, 0);
            due(0, x.ofStore(1, 3));
            due(0, x.ofStore(1, 4));
            x.take(1, 0);
            due(NONE, x.ofStore(1, 3));
            due(NONE, x.ofStore(1, 4));
        });
        edge(STORE, () -> {
            Patchstore x = chain();
            outside(x, INDEX, 0, 2, value -> x.ofStore(value, 5));
        });
        edge("Throws `IllegalArgumentException` if what is not 0 to 4", () -> {
            Patchstore x = chain();
            outside(x, ARGUMENT, 0, 4, value -> x.ofStore(1, value));
        });
        edge("Returns that.", () -> due(3, straight().ofStore(0, 0)));
    }

    private static void ordered() {
        of("P40");
        edge("Returns the CHANGE there.", () -> {
            Patchstore x = chain();
            x.swap(0, 1);
            due(0, x.ordered(0, 0));
            due(2, x.ordered(0, 1));
            due(1, x.ordered(0, 2));
        });
        edge("Throws `IndexOutOfBoundsException` if store is not 0 to 2, or nothing is there", () -> {
            Patchstore x = chain();
            outside(x, INDEX, 0, 2, value -> x.ordered(value, 0));
            outside(x, INDEX, 0, 2, value -> x.ordered(0, value));
            outside(x, INDEX, 0, -1, value -> x.ordered(1, value));
            x.take(0, 2);
            thrown(x, INDEX, () -> x.ordered(0, 2));
        });
        edge("or nothing is there", () -> {
            Patchstore x = fresh();
            fillChanges(x);
            outside(x, INDEX, 0, 23, value -> x.ordered(0, value));
            due(23, x.ordered(0, 23));
        });
        of("P41");
        edge("Returns its place in the ORDER; NONE, if it is not in the STORE.", () -> {
            Patchstore x = chain();
            x.swap(0, 1);
            due(0, x.placeOf(0, 0));
            due(2, x.placeOf(0, 1));
            due(1, x.placeOf(0, 2));
        });
        edge("NONE, if it is not in the STORE", () -> {
            Patchstore x = chain();
            due(NONE, x.placeOf(1, 0));
            x.take(0, 2);
            due(NONE, x.placeOf(0, 2));
            due(1, x.placeOf(0, 1));
        });
        edge("Throws `IndexOutOfBoundsException` if store is not 0 to 2, or there is no such CHANGE", () -> {
            Patchstore x = chain();
            outside(x, INDEX, 0, 2, value -> x.placeOf(value, 0));
            outside(x, INDEX, 0, 2, value -> x.placeOf(0, value));
            outside(x, INDEX, 0, 2, value -> x.placeOf(1, value));
        });
    }

    private static void lacks() {
        of("P42");
        edge("Returns the set of the CHANGES that the other one has, and the first one has not.", () -> {
            Patchstore x = chain();
            x.putAll(1, 2);
            record(x, 1, 1, "q");
            due(8, x.lacks(0, 1));
            due(2, x.lacks(1, 0));
            due(7, x.lacks(2, 0));
            due(0, x.lacks(0, 2));
        });
        edge("a STORE (it may be the same)", () -> {
            Patchstore x = chain();
            due(0, x.lacks(0, 0));
            due(0, x.lacks(1, 1));
        });
        edge(STORE_OTHER, () -> {
            Patchstore x = chain();
            outside(x, INDEX, 0, 2, value -> x.lacks(value, 0));
            outside(x, INDEX, 0, 2, value -> x.lacks(0, value));
        });
    }

    private static void wouldClash() {
        of("P43");
        edge("Returns how many CLASHES both PARTS had together", () -> {
            Patchstore x = threeFree();
            record(x, 1, 1, "d");
            due(1, x.wouldClash(0, 0));
            due(2, x.wouldClash(0, 3));
            due(1, x.wouldClash(1, 0));
            due(1, x.wouldClash(1, 1));
            due(0, x.wouldClash(2, 3));
            due(1, x.ofPart(0, 0, 3) + x.ofPart(0, 1, 3));
        });
        edge("if the CHANGE and all that it HANGS on were in the STORE, too", () -> {
            Patchstore x = straight();
            record(x, 1, 0, "z");
            due(1, x.wouldClash(1, 2));
            due(1, x.wouldClash(0, 3));
            due(0, x.wouldClash(2, 2));
            due(8, x.ofStore(1, 1));
            due(0, x.ofStore(2, 1));
        });
        edge("all that it HANGS on were in the STORE", () -> {
            Patchstore x = fresh();
            record(x, 0, 0, "a");
            x.pull(1, 0);
            record(x, 0, 0, "b");
            record(x, 0, 0, "bc");
            record(x, 0, 0, "bcd");
            due(4, x.ofChange(3, 7));
            due(7, x.ofChange(3, 8));
            due(0, x.wouldClash(1, 3));
        });
        edge("and all that it HANGS on", () -> {
            Patchstore x = threeSides();
            x.pull(1, 0);
            x.settle(1, 0, 0, 0);
            due(0, x.wouldClash(2, 4));
            due(1, x.wouldClash(2, 2));
        });
        edge("Throws `IndexOutOfBoundsException` if store is not 0 to 2, or there is no such CHANGE", () -> {
            Patchstore x = straight();
            outside(x, INDEX, 0, 2, value -> x.wouldClash(value, 0));
            outside(x, INDEX, 0, 2, value -> x.wouldClash(1, value));
        });
    }

    private static void search() {
        of("P44");
        edge("SEARCHES by halves.", () -> {
            Patchstore x = straight();
            due(1, x.search(0, 1, false));
            due(2, x.search(0, 2, false));
            due(NONE, x.search(1, 1, false));
        });
        edge("Returns the CHANGE that is found (NONE without), or how many LOOKS were taken.", () -> {
            Patchstore x = straight();
            due(0, x.search(0, 0, false));
            due(2, x.search(0, 0, true));
            due(3, x.search(0, 2, true));
        });
        edge("(NONE without), or how many LOOKS were taken", () -> {
            Patchstore x = straight();
            due(NONE, x.search(0, 3, false));
            due(1, x.search(0, 3, true));
            due(NONE, x.search(2, 0, false));
            due(1, x.search(2, 0, true));
        });
        edge("how many LOOKS were taken", () -> {
            Patchstore x = fresh();
            for (int k = 0; k < 23; k++) {
                x.name(0, 1, 2 + k);
            }
            record(x, 0, 0, "a");
            due(23, x.search(0, 0, false));
            due(6, x.search(0, 0, true));
        });
        edge(STORE, () -> {
            Patchstore x = straight();
            outside(x, INDEX, 0, 2, value -> x.search(value, 26, false));
        });
        edge("Throws `IllegalArgumentException` if word is not 0 to 25", () -> {
            Patchstore x = straight();
            outside(x, ARGUMENT, 0, 25, value -> x.search(0, value, false));
            outside(x, ARGUMENT, 0, 25, value -> x.search(1, value, true));
        });
    }

    private static void taggedAndWalked() {
        of("P45");
        edge("whether the set of its CHANGES is asked for, otherwise how many it has", () -> {
            Patchstore x = chain();
            x.putAll(1, 2);
            x.tag(1);
            x.tag(2);
            due(2, x.tagged(0, false));
            due(5, x.tagged(0, true));
            due(0, x.tagged(1, false));
            due(0, x.tagged(1, true));
        });
        edge("Throws `IndexOutOfBoundsException` if there is no such TAG", () -> {
            Patchstore x = chain();
            outside(x, INDEX, 0, -1, value -> x.tagged(value, true));
            for (int tags = 1; tags <= 4; tags++) {
                int last = x.tag(0);
                outside(x, INDEX, 0, last, value -> x.tagged(value, false));
                due(3, x.tagged(last, false));
            }
        });
        edge("Returns that.", () -> {
            Patchstore x = fresh();
            fillChanges(x);
            x.tag(0);
            due(24, x.tagged(0, false));
            due((1 << 24) - 1, x.tagged(0, true));
        });
        of("P46");
        String all = "0 the STORE in which the WALK stands, 1 how many CHANGES are ahead of it, 2"
            + " the CHANGE that is PASSED";
        edge(all, () -> {
            Patchstore x = chain();
            x.swap(0, 1);
            x.pull(2, 0);
            x.walk(2);
            x.forth();
            x.forth();
            due(2, x.walked(0));
            due(2, x.walked(1));
            due(2, x.walked(2));
            x.back();
            due(1, x.walked(1));
            due(2, x.walked(2));
        });
        edge("(NONE without)", () -> {
            Patchstore x = chain();
            x.walk(0);
            due(0, x.walked(1));
            due(NONE, x.walked(2));
        });
        edge("Returns that (NONE without a WALK).", () -> {
            Patchstore x = chain();
            for (int what = 0; what <= 2; what++) {
                due(NONE, x.walked(what));
            }
            x.walk(0);
            x.forth();
            x.take(0, 2);
            for (int what = 0; what <= 2; what++) {
                due(NONE, x.walked(what));
            }
        });
        edge("Throws `IllegalArgumentException` if what is not 0 to 2", () -> {
            Patchstore x = chain();
            outside(x, ARGUMENT, 0, 2, x::walked);
            x.walk(0);
            outside(x, ARGUMENT, 0, 2, x::walked);
        });
    }

    private static void house() {
        of("P47");
        edge("0 LINES, 1 CHANGES, 2 TAGS, 3 how often one knocked, 4 how many WORDS the DRAFT has", () -> {
            Patchstore x = straight();
            record(x, 0, 0, "abcd");
            x.kill(0, 0);
            x.tag(0);
            x.knock();
            x.knock();
            int[] all = {4, 5, 1, 2, 4};
            for (int what = 0; what <= 4; what++) {
                due(all[what], x.house(what));
            }
        });
        edge("Returns how many.", () -> {
            Patchstore x = straight();
            x.takeAll(0, 0);
            due(3, x.house(0));
            due(3, x.house(1));
            x.erase(0);
            due(2, x.house(4));
        });
        edge("Throws `IllegalArgumentException` if what is not 0 to 4", () -> {
            Patchstore x = straight();
            outside(x, ARGUMENT, 0, 4, x::house);
        });
    }

    private static void isSound() {
        of("P48");
        String words = "Returns whether all of this is so";
        edge(words, () -> due(true, fresh().isSound()));
        edge(words, () -> due(true, threeSides().isSound()));
        edge(words, () -> due(true, ring().isSound()));
        edge(words, () -> due(true, sixtyRow().isSound()));
        String knots = "each two LIVE LINES of unlike KNOTS are AHEAD as the KNOTS are, and each"
            + " LIVE LINE is in just one KNOT";
        edge(knots, () -> {
            Patchstore x = fourUnsure();
            x.tell(0, 2, 1);
            due(true, x.isSound());
            for (int place = 0; place < 4; place++) {
                due(place < 2 ? 0 : 1, x.at(0, 0, place, 4));
            }
            due(true, x.isAhead(0, x.at(0, 0, 0, 0), x.at(0, 0, 2, 0)));
        });
        edge("a copy of it, from which each CHANGE that nothing of it HANGS on is taken and then PUT in again", () -> {
            Patchstore x = threeSides();
            x.walk(0);
            x.forth();
            onlyAsks(x, x::isSound);
            due(true, x.isSound());
            due(0, x.walked(2));
            for (int change = 0; change < 4; change++) {
                due(change, x.ordered(0, change));
            }
        });
        edge("a copy in which the CHANGES of its set came by rising numbers shows the same", () -> {
            Patchstore x = threeFree();
            x.swap(0, 0);
            x.swap(0, 1);
            due(true, x.isSound());
            due(1, x.ordered(0, 0));
            due(0, x.ordered(0, 2));
            due("<a=c>", x.shown(0, 0));
        });
        edge("of each two STORES copies that pulled all from each other show the same", () -> {
            Patchstore x = threeSides();
            due(true, x.isSound());
            due(2, x.ofStore(1, 0));
            due(2, x.ofStore(2, 0));
            due("a|y|z|c", x.shown(1, 0));
            due("a|w|c", x.shown(2, 0));
        });
    }

    /** The digest of a new object by the document's row: all is 0, or NONE, or the number of the part as its name. */
    private static long digestOfNew() {
        BigInteger d = BigInteger.valueOf(5902);
        int[] walk = {0, 0, 0, 0, 0, NONE, NONE, NONE};
        int[] store = {0, 0, 0, NONE, NONE, 0, 0, 0, 0, 0, 0, 0, 0, 0, 0, 0, 0, 0, 0, 0, 1, 0, 0, 0};
        BigInteger factor = BigInteger.valueOf(31);
        for (int v : walk) {
            d = d.multiply(factor).add(BigInteger.valueOf(v));
        }
        for (int k = 0; k < 3; k++) {
            for (int v : store) {
                d = d.multiply(factor).add(BigInteger.valueOf(v));
            }
        }
        return d.multiply(factor).add(BigInteger.ONE).longValue();
    }

    private static void digest() {
        of("P49");
        edge("Computes a checksum. A number d starts with 5902", () -> due(digestOfNew(), fresh().digest()));
        edge("then d becomes d * 31 + v, which wraps around as a 64-bit integer", () -> {
            Patchstore x = fresh();
            long without = x.digest();
            x.tag(2);
            // How many TAGS there are has 78 numbers behind it; the tag's two, both 0, come ahead of the last one, 1.
            long more = 1;
            for (int k = 0; k < 78; k++) {
                more *= 31;
            }
            due((without - 1 + more) * 31 * 31 + 1, x.digest());
        });
        String row = "for each v in this order: house() of 0 to 4; walked() of 0 to 2; LINE by LINE ofLine() of 0 to 6;"
            + " CHANGE by CHANGE ofChange() of 0 to 9 and the number of signs of edits(); STORE by STORE all of these:"
            + " ofStore() of 0 to 4, place by place of the ORDER the CHANGE, PART by PART ofPart()"
            + " of 0 to 5, the number"
            + " of signs of shown(), PLACE by PLACE at() of 0, 3 and 4, nameOf(), then lacks() of it and 0 to 2, CHANGE"
            + " by CHANGE wouldClash(); TAG by TAG tagged(), the number, then the set; 1 if isSound(), otherwise 0.";
        for (Asked.Maker maker : MAKERS) {
            edge(row, () -> due(new Asked(maker).digest(), maker.make().digest()));
        }
        edge("Returns d.", () -> {
            Patchstore x = told(threeSides());
            long d = x.digest();
            due(d, x.digest());
            due(d, told(threeSides()).digest());
            x.knock();
            due(false, d == x.digest());
        });
    }

    private static final Asked.Maker[] MAKERS = {Bench::fresh, Bench::sixtyRow, () -> told(threeSides()),
        () -> told(ring()), () -> told(chain()), () -> told(fourUnsure()), () -> told(plain(60)),
        () -> told(sixtyLines()), () -> told(moved())};

    /** Two lines of store 0 that were moved: who put them in is another one than who wrote them. */
    private static Patchstore moved() {
        Patchstore x = straight();
        x.move(0, 0, 0, 2, 1);
        return x;
    }

    /** A name, a tag, a knock and a walk come to it. */
    private static Patchstore told(Patchstore x) {
        x.name(1, 1, 9);
        x.tag(0);
        x.tag(1);
        x.knock();
        x.pull(2, 0);
        x.walk(0);
        x.forth();
        return x;
    }
}
