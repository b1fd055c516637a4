/** Each promise of the document by itself; the answers that are due were worked out from its words by hand. */
public final class PromiseTest extends Bench {
    private static void promise1() {
        Patchstore x = fresh();
        for (int what = 0; what <= 4; what++) {
            due(0, x.house(what));
        }
        for (int what = 0; what <= 2; what++) {
            due(NONE, x.walked(what));
        }
        for (int store = 0; store <= 2; store++) {
            due(0, x.ofStore(store, 0));
            due("", x.shown(store, 0));
            due("", x.shown(store, 1));
        }
        due("", x.draft());
        due(-1499049334518971753L, x.digest());
    }

    private static void promise2() {
        Patchstore x = fresh();
        due(1, x.type(0, 0));
        due(2, x.type(1, 25));
        due(3, x.type(1, 1));
        due(4, x.type(0, 2));
        due("cabz", x.draft());
        thrown(x, INDEX, () -> x.type(5, 0));
        thrown(x, INDEX, () -> x.type(-1, 26));
        thrown(x, INDEX, () -> x.type(Integer.MAX_VALUE, 0));
        thrown(x, ARGUMENT, () -> x.type(0, -1));
        thrown(x, ARGUMENT, () -> x.type(4, 26));
        for (int k = 4; k < 10; k++) {
            due(k + 1, x.type(k, 3));
        }
        thrown(x, STATE, () -> x.type(0, 0));
        thrown(x, STATE, () -> x.type(10, 25));
        thrown(x, ARGUMENT, () -> x.type(10, 26));
        thrown(x, INDEX, () -> x.type(11, 26));
        due("cabzdddddd", x.draft());
    }

    private static void promise3() {
        Patchstore x = fresh();
        thrown(x, INDEX, () -> x.erase(0));
        write(x, "abcd");
        due(1, x.erase(1));
        due("acd", x.draft());
        thrown(x, INDEX, () -> x.erase(3));
        thrown(x, INDEX, () -> x.erase(-1));
        due(3, x.erase(2));
        due(0, x.erase(0));
        due("c", x.draft());
        due(2, x.erase(0));
        due(0, x.house(4));
    }

    private static void promise4() {
        Patchstore x = fresh();
        record(x, 0, 1, "cab");
        write(x, "zz");
        due(3, x.load(0, 1));
        due("cab", x.draft());
        due(0, x.load(1, 1));
        due("", x.draft());
        thrown(x, INDEX, () -> x.load(3, 0));
        thrown(x, INDEX, () -> x.load(-1, 0));
        thrown(x, INDEX, () -> x.load(0, 2));
        thrown(x, INDEX, () -> x.load(0, -1));
        Patchstore sides = threeSides();
        write(sides, "q");
        cant(sides, () -> sides.load(0, 0));
        due("q", sides.draft());
        Patchstore eleven = elevenLines();
        due("a|b|c|d|e|f|g|h|i|j|k", eleven.shown(0, 0));
        cant(eleven, () -> eleven.load(0, 0));
        eleven.kill(0, 3);
        due(10, eleven.load(0, 0));
        due("abcefghijk", eleven.draft());
    }

    private static void promise5() {
        Patchstore x = fresh();
        due("", x.draft());
        write(x, "za");
        due("za", x.draft());
        write(x, "abcdefghij");
        due("abcdefghij", x.draft());
    }

    private static void promise6() {
        Patchstore x = fresh();
        cant(x, () -> x.record(0, 0));
        due(0, record(x, 0, 0, "ab"));
        due("+0 +1", x.edits(0));
        due(NONE, x.ofLine(0, 3));
        due(NONE, x.ofLine(0, 4));
        due(0, x.ofLine(1, 3));
        due(NONE, x.ofLine(1, 4));
        due(0, x.ofChange(0, 8));
        cant(x, () -> x.record(0, 0));
        due(1, record(x, 0, 0, "ba"));
        due("-0 +2", x.edits(1));
        due("b|a", x.shown(0, 0));
        due(1, x.ofLine(2, 3));
        due(NONE, x.ofLine(2, 4));
        due(1, x.ofChange(1, 7));
        due(2, record(x, 0, 0, "bxya"));
        due("+3 +4", x.edits(2));
        due(1, x.ofLine(3, 3));
        due(2, x.ofLine(3, 4));
        due(3, x.ofLine(4, 3));
        due(2, x.ofLine(4, 4));
        due(3, x.ofChange(2, 7));
        due(3, record(x, 0, 0, "bzya"));
        due("-3 +5", x.edits(3));
        due(1, x.ofLine(5, 3));
        due(4, x.ofLine(5, 4));
        due(4, record(x, 0, 0, ""));
        due("-1 -5 -4 -2", x.edits(4));
        due("", x.shown(0, 0));
        due(5, x.ofStore(0, 0));
        due(4, x.ordered(0, 4));
        cant(x, () -> x.record(0, 0));
        thrown(x, INDEX, () -> x.record(3, 0));
        thrown(x, INDEX, () -> x.record(0, 2));
        thrown(x, INDEX, () -> x.record(0, -1));
        recordTwice();
        recordRefused();
        recordLong();
    }

    private static void recordTwice() {
        Patchstore x = fresh();
        record(x, 0, 1, "aab");
        due(1, record(x, 0, 1, "ab"));
        due("-1", x.edits(1));
        due(2, record(x, 0, 1, "bab"));
        due("+3", x.edits(2));
        due(NONE, x.ofLine(3, 3));
        due(0, x.ofLine(3, 4));
        due(1, x.ofLine(3, 0));
        due(3, record(x, 0, 1, "cbd"));
        due("-3 -0 +4 +5", x.edits(3));
        due(NONE, x.ofLine(4, 3));
        due(2, x.ofLine(4, 4));
        Patchstore sides = threeSides();
        write(sides, "axyzwc");
        cant(sides, () -> sides.record(0, 0));
        due(4, sides.record(0, 1));
        due("a|x|y|z|w|c", sides.shown(0, 1));
    }

    private static void recordRefused() {
        Patchstore x = sixtyLines();
        due(60, x.house(0));
        write(x, "ffffffffff");
        cant(x, () -> x.record(0, 0));
        write(x, "fffffffffg");
        thrown(x, STATE, () -> x.record(0, 0));
        due(6, record(x, 0, 0, "fffffffff"));
        fillChanges(x);
        due(24, x.house(1));
        cant(x, () -> x.record(0, 0));
        write(x, "f");
        thrown(x, STATE, () -> x.record(0, 0));
        Patchstore y = fresh();
        for (int k = 0; k < 5; k++) {
            record(y, 0, 0, "aaaaaaaaaa".replace('a', (char) ('a' + k)));
        }
        record(y, 0, 1, "abcde");
        write(y, "eeeexxxxxx");
        thrown(y, STATE, () -> y.record(0, 0));
        due(6, record(y, 0, 0, "eeeeexxxxx"));
        due(60, y.house(0));
    }

    private static void recordLong() {
        Patchstore x = sixtyRow();
        due(60, x.ofPart(0, 0, 0));
        due(0, x.ofPart(0, 0, 3));
        due(16, x.house(1));
        write(x, "jjjjjjjjjj");
        thrown(x, STATE, () -> x.record(0, 0));
        due(16, record(x, 0, 0, "jabcdefghi"));
        due(50, x.ofChange(16, 3));
        due(50, x.ofChange(16, 1));
        due("j|a|b|c|d|e|f|g|h|i", x.shown(0, 0));
        due(9, x.at(0, 0, 0, 0));
        due(10, x.at(0, 0, 1, 0));
        x.take(0, 16);
        due(17, record(x, 0, 0, ""));
        due(60, x.ofChange(17, 3));
        due(229, x.edits(17).length());
        due("", x.shown(0, 0));
    }

    private static void promise7() {
        Patchstore x = chain();
        thrown(x, INDEX, () -> x.kill(3, 0));
        thrown(x, INDEX, () -> x.kill(0, 3));
        thrown(x, INDEX, () -> x.kill(0, -1));
        cant(x, () -> x.kill(1, 0));
        due(3, x.kill(0, 1));
        due("-1", x.edits(3));
        due(2, x.ofChange(3, 7));
        due("c|a", x.shown(0, 0));
        due(0, x.ofChange(3, 0));
        cant(x, () -> x.kill(0, 1));
        fillChanges(x);
        cant(x, () -> x.kill(0, 1));
        thrown(x, STATE, () -> x.kill(0, 0));
    }

    private static void promise8() {
        Patchstore x = fresh();
        record(x, 0, 1, "a");
        x.pull(1, 0);
        cant(x, () -> x.revive(0, 0));
        cant(x, () -> x.revive(2, 0));
        due(1, x.kill(0, 0));
        due(2, x.kill(1, 0));
        x.pull(0, 1);
        due(3, x.revive(0, 0));
        due("^0", x.edits(3));
        due(7, x.ofChange(3, 7));
        due("a", x.shown(0, 1));
        due(1, x.ofChange(3, 0));
        cant(x, () -> x.revive(0, 0));
        due(4, x.kill(0, 0));
        due(5, x.revive(0, 0));
        due(1 + 2 + 4 + 16, x.ofChange(5, 7));
        due(1 + 2 + 4 + 16, x.ofChange(5, 8));
        due(6, x.revive(1, 0));
        due(5, x.ofChange(6, 7));
        due("a", x.shown(1, 1));
        x.pull(1, 0);
        due("a", x.shown(1, 1));
        x.take(1, 3);
        due(2, x.state(1, 0));
        x.take(1, 5);
        due(1, x.state(1, 0));
        thrown(x, INDEX, () -> x.revive(3, 0));
        thrown(x, INDEX, () -> x.revive(0, 1));
        thrown(x, INDEX, () -> x.revive(0, -1));
        x.kill(0, 0);
        fillChanges(x);
        thrown(x, STATE, () -> x.revive(0, 0));
        cant(x, () -> x.revive(2, 0));
    }

    private static void promise9() {
        Patchstore x = ring();
        due(1, x.ofChange(3, 5));
        due("1>2", x.edits(2));
        due("2>0", x.edits(3));
        due(3, x.ofChange(2, 7));
        due("<a|b=c>", x.shown(0, 0));
        due("c|a|b", x.shown(1, 0));
        due(4, x.tell(0, 0, 2));
        due("<a|b=c>", x.shown(0, 0));
        cant(x, () -> x.tell(0, 1, 1));
        cant(x, () -> x.tell(1, 0, 2));
        cant(x, () -> x.tell(2, 0, 2));
        x.kill(0, 2);
        cant(x, () -> x.tell(0, 0, 2));
        cant(x, () -> x.tell(0, 2, 0));
        due(6, x.tell(0, 1, 0));
        due(1, x.ofChange(6, 7));
        thrown(x, INDEX, () -> x.tell(3, 0, 1));
        thrown(x, INDEX, () -> x.tell(0, 3, 1));
        thrown(x, INDEX, () -> x.tell(0, 0, 3));
        thrown(x, INDEX, () -> x.tell(0, -1, 0));
        thrown(x, INDEX, () -> x.tell(0, 0, -1));
        record(x, 0, 1, "q");
        cant(x, () -> x.tell(0, 0, 3));
        fillChanges(x);
        cant(x, () -> x.tell(0, 1, 1));
        thrown(x, STATE, () -> x.tell(0, 0, 1));
        Patchstore two = fresh();
        record(two, 0, 0, "b");
        record(two, 1, 0, "a");
        two.pull(0, 1);
        two.pull(1, 0);
        due(2, two.tell(0, 0, 1));
        due("b|a", two.shown(0, 0));
        due(3, two.tell(1, 1, 0));
        due("a|b", two.shown(1, 0));
        due("1>0", two.edits(3));
        Patchstore sides = threeSides();
        due(4, sides.tell(0, 5, 3));
        due("a|<x=y|z=w>|c", sides.shown(0, 0));
        due(5, sides.tell(0, 4, 2));
        due("a|w|y|z|x|c", sides.shown(0, 0));
    }

    private static void promise10() {
        Patchstore x = fresh();
        cant(x, () -> x.name(0, 0, 0));
        cant(x, () -> x.name(0, 1, 1));
        due(0, x.name(0, 0, 1));
        due(0, x.ofChange(0, 0));
        due(1, x.ofChange(0, 6));
        due("=b", x.edits(0));
        cant(x, () -> x.name(0, 0, 1));
        due(1, x.name(1, 0, 25));
        due("=z", x.edits(1));
        due(2, x.name(0, 1, 25));
        due(0, x.ofChange(2, 8));
        x.pull(0, 1);
        due(-2, x.nameOf(0, 0));
        due(3, x.name(0, 0, 1));
        due(3, x.ofChange(3, 7));
        due(1, x.nameOf(0, 0));
        due(4, x.name(0, 0, 0));
        due(11, x.ofChange(4, 7));
        due(0, x.nameOf(0, 0));
        thrown(x, INDEX, () -> x.name(3, 0, 26));
        thrown(x, INDEX, () -> x.name(0, 2, 26));
        thrown(x, ARGUMENT, () -> x.name(0, 0, 26));
        thrown(x, ARGUMENT, () -> x.name(0, 0, -1));
        fillChanges(x);
        thrown(x, STATE, () -> x.name(0, 0, 9));
        thrown(x, ARGUMENT, () -> x.name(0, 0, 26));
        cant(x, () -> x.name(0, 0, 0));
    }

    private static void promise11() {
        Patchstore x = threeSides();
        thrown(x, INDEX, () -> x.settle(3, 0, -1, 0));
        thrown(x, INDEX, () -> x.settle(0, 2, 0, -1));
        thrown(x, ARGUMENT, () -> x.settle(0, 0, -1, 0));
        thrown(x, ARGUMENT, () -> x.settle(0, 0, 0, -1));
        thrown(x, ARGUMENT, () -> x.settle(0, 0, 9, -1));
        cant(x, () -> x.settle(0, 0, 1, 0));
        cant(x, () -> x.settle(0, 0, 0, 3));
        cant(x, () -> x.settle(1, 0, 0, 0));
        cant(x, () -> x.settle(0, 0, Integer.MAX_VALUE, Integer.MAX_VALUE));
        x.pull(1, 0);
        due(4, x.settle(0, 0, 0, 1));
        due("-2 -5", x.edits(4));
        due(2 + 8, x.ofChange(4, 7));
        due("a|y|z|c", x.shown(0, 0));
        due(5, x.settle(1, 0, 0, 2));
        due("-2 -3 -4", x.edits(5));
        due("a|w|c", x.shown(1, 0));
        Patchstore first = ring();
        due(4, first.settle(0, 0, 0, 1));
        due("-0 -1", first.edits(4));
        due("c", first.shown(0, 0));
        Patchstore one = ring();
        one.kill(0, 2);
        due("<a|b>", one.shown(0, 0));
        cant(one, () -> one.settle(0, 0, 0, 1));
        due(5, one.settle(0, 0, 0, 0));
        due("", one.edits(5));
        due(0, one.ofChange(5, 1));
        due(0, one.ofChange(5, 8));
        due("<a|b>", one.shown(0, 0));
        fillChanges(one);
        cant(one, () -> one.settle(0, 0, 0, 1));
        thrown(one, STATE, () -> one.settle(0, 0, 0, 0));
        thrown(one, ARGUMENT, () -> one.settle(0, 0, 0, -1));
    }

    private static void promise12() {
        Patchstore x = fresh();
        thrown(x, INDEX, () -> x.move(0, 1, 0, 0, 0));
        thrown(x, INDEX, () -> x.move(0, 1, 0, 1, 0));
        record(x, 0, 1, "abcd");
        due(1, x.move(0, 1, 1, 3, 0));
        due("-1 -2 +4 +5", x.edits(1));
        due("b|c|a|d", x.shown(0, 1));
        due("b0 c0 a0 d0", x.blame(0, 1));
        int[] fourth = {1, 1, 1, NONE, 0, 1, 0};
        int[] fifth = {1, 2, 1, 4, 0, 2, 0};
        for (int what = 0; what <= 6; what++) {
            due(fourth[what], x.ofLine(4, what));
            due(fifth[what], x.ofLine(5, what));
        }
        due(1, x.ofChange(1, 7));
        due(2, x.move(0, 1, 0, 1, 3));
        due("-4 +6", x.edits(2));
        due("c|a|d|b", x.shown(0, 1));
        due(3, x.ofLine(6, 3));
        due(NONE, x.ofLine(6, 4));
        due(4, x.ofLine(6, 5));
        due(0, x.ofLine(6, 6));
        due(3, x.ofChange(2, 7));
        due(3, x.move(0, 1, 0, 2, 1));
        due("d|c|a|b", x.shown(0, 1));
        due(3, x.ofLine(7, 3));
        due(6, x.ofLine(8, 4));
        due(7, x.ofLine(8, 3));
        cant(x, () -> x.move(0, 1, 0, 4, 0));
        cant(x, () -> x.move(0, 1, 2, 3, 2));
        thrown(x, INDEX, () -> x.move(3, 1, 0, 1, 1));
        thrown(x, INDEX, () -> x.move(0, 2, 0, 1, 1));
        thrown(x, INDEX, () -> x.move(0, 1, -1, 1, 9));
        thrown(x, INDEX, () -> x.move(0, 1, 4, 5, 0));
        thrown(x, INDEX, () -> x.move(0, 1, 2, 2, 0));
        thrown(x, INDEX, () -> x.move(0, 1, 2, 5, 0));
        thrown(x, INDEX, () -> x.move(0, 1, 1, Integer.MIN_VALUE, 0));
        thrown(x, ARGUMENT, () -> x.move(0, 1, 0, 2, 3));
        thrown(x, ARGUMENT, () -> x.move(0, 1, 0, 4, 1));
        thrown(x, ARGUMENT, () -> x.move(0, 1, 0, 1, -1));
        moveRefused(x);
        Patchstore inner = fresh();
        record(inner, 0, 0, "abcde");
        due(1, inner.move(0, 0, 1, 2, 3));
        due("a|c|d|b|e", inner.shown(0, 0));
        due(3, inner.ofLine(5, 3));
        due(4, inner.ofLine(5, 4));
        due(2, inner.move(0, 0, 2, 4, 1));
        due("a|d|b|c|e", inner.shown(0, 0));
        due(0, inner.ofLine(6, 3));
        due(2, inner.ofLine(6, 4));
        due(2, inner.ofLine(7, 4));
    }

    private static void moveRefused(Patchstore x) {
        fillChanges(x);
        cant(x, () -> x.move(0, 1, 1, 3, 1));
        thrown(x, STATE, () -> x.move(0, 1, 1, 3, 0));
        thrown(x, ARGUMENT, () -> x.move(0, 1, 1, 3, 3));
        Patchstore lines = sixtyLines();
        cant(lines, () -> lines.move(0, 0, 1, 3, 1));
        thrown(lines, STATE, () -> lines.move(0, 0, 1, 2, 0));
        Patchstore some = elevenLines();
        record(some, 1, 1, "abcdefghij");
        record(some, 1, 1, "klmnopqrst");
        record(some, 1, 1, "abcdefghij");
        some.kill(0, 1);
        record(some, 1, 1, "klmnopqrs");
        due(50, some.house(0));
        due(8, some.move(0, 0, 0, 9, 1));
        due(59, some.house(0));
        thrown(some, STATE, () -> some.move(0, 0, 0, 2, 1));
        due(9, some.move(0, 0, 0, 1, 1));
        due(60, some.house(0));
        Patchstore sides = threeSides();
        cant(sides, () -> sides.move(0, 0, 0, 1, 1));
        thrown(sides, INDEX, () -> sides.move(0, 0, 0, 7, 1));
        thrown(sides, ARGUMENT, () -> sides.move(0, 0, 0, 1, 6));
    }

    private static void promise13() {
        Patchstore x = chain();
        thrown(x, INDEX, () -> x.put(3, 0));
        thrown(x, INDEX, () -> x.put(0, 3));
        thrown(x, INDEX, () -> x.put(0, -1));
        cant(x, () -> x.put(0, 0));
        cant(x, () -> x.put(1, 1));
        due(1, x.put(1, 0));
        due(2, x.put(1, 2));
        due(3, x.put(1, 1));
        due(1, x.ordered(1, 2));
        due("c|a|b", x.shown(1, 0));
    }

    private static void promise14() {
        Patchstore x = chain();
        thrown(x, INDEX, () -> x.take(3, 0));
        thrown(x, INDEX, () -> x.take(0, 3));
        thrown(x, INDEX, () -> x.take(0, -1));
        cant(x, () -> x.take(1, 0));
        cant(x, () -> x.take(0, 0));
        due(2, x.take(0, 1));
        due("c|a", x.shown(0, 0));
        due(2, x.ordered(0, 1));
        cant(x, () -> x.take(0, 1));
        due(1, x.take(0, 2));
        due(0, x.take(0, 0));
        due("", x.shown(0, 0));
    }

    private static void promise15() {
        Patchstore x = chain();
        record(x, 0, 0, "cabd");
        thrown(x, INDEX, () -> x.putAll(3, 0));
        thrown(x, INDEX, () -> x.putAll(0, 4));
        thrown(x, INDEX, () -> x.putAll(0, -1));
        due(2, x.putAll(1, 2));
        due(0, x.putAll(1, 2));
        due(5, x.ofStore(1, 1));
        due(2, x.putAll(1, 3));
        due(1, x.ordered(1, 2));
        due(3, x.ordered(1, 3));
        due(1, x.putAll(2, 0));
        due(2, x.putAll(2, 3));
        due(1 + 2 + 8, x.ofStore(2, 1));
        due("a|b|d", x.shown(2, 0));
    }

    private static void promise16() {
        Patchstore x = chain();
        record(x, 0, 0, "cabd");
        x.putAll(1, 1);
        thrown(x, INDEX, () -> x.takeAll(3, 0));
        thrown(x, INDEX, () -> x.takeAll(0, 4));
        thrown(x, INDEX, () -> x.takeAll(0, -1));
        due(0, x.takeAll(2, 0));
        due(0, x.takeAll(1, 2));
        due(2, x.takeAll(0, 1));
        due(1 + 4, x.ofStore(0, 1));
        due("c|a", x.shown(0, 0));
        due(2, x.takeAll(0, 0));
        due(2, x.takeAll(1, 0));
        due(0, x.ofStore(1, 0));
    }

    private static void promise17() {
        Patchstore x = chain();
        thrown(x, INDEX, () -> x.swap(3, 0));
        thrown(x, INDEX, () -> x.swap(0, 2));
        thrown(x, INDEX, () -> x.swap(0, -1));
        thrown(x, INDEX, () -> x.swap(0, Integer.MAX_VALUE));
        thrown(x, INDEX, () -> x.swap(1, 0));
        x.put(1, 0);
        thrown(x, INDEX, () -> x.swap(1, 0));
        cant(x, () -> x.swap(0, 0));
        due(2, x.swap(0, 1));
        due(2, x.ordered(0, 1));
        due(1, x.ordered(0, 2));
        due("c|a|b", x.shown(0, 0));
        cant(x, () -> x.swap(0, 0));
        due(1, x.swap(0, 1));
        Patchstore free = threeFree();
        due(1, free.swap(0, 0));
        due(1, free.ordered(0, 0));
        due(0, free.ordered(0, 1));
        due(2, free.ordered(0, 2));
    }

    private static void promise18() {
        Patchstore x = chain();
        x.swap(0, 1);
        thrown(x, INDEX, () -> x.pull(3, 0));
        thrown(x, INDEX, () -> x.pull(0, 3));
        thrown(x, INDEX, () -> x.pull(0, -1));
        due(0, x.pull(0, 0));
        due(0, x.pull(0, 1));
        record(x, 1, 1, "q");
        due(3, x.pull(1, 0));
        int[] order = {3, 0, 2, 1};
        for (int place = 0; place < 4; place++) {
            due(order[place], x.ordered(1, place));
        }
        due(1, x.pull(0, 1));
        due(3, x.ordered(0, 3));
        due(0, x.pull(0, 1));
    }

    private static void promise19() {
        Patchstore x = chain();
        thrown(x, INDEX, () -> x.tag(3));
        thrown(x, INDEX, () -> x.tag(-1));
        due(0, x.tag(0));
        x.take(0, 2);
        due(7, x.tagged(0, true));
        due(1, x.tag(0));
        due(2, x.tag(1));
        due(3, x.tag(0));
        thrown(x, STATE, () -> x.tag(0));
        thrown(x, INDEX, () -> x.tag(3));
        due(3, x.tagged(1, true));
        due(0, x.tagged(2, false));
    }

    private static void promise20() {
        Patchstore x = chain();
        thrown(x, INDEX, () -> x.asTagged(0, 0));
        x.swap(0, 1);
        x.tag(0);
        x.tag(2);
        thrown(x, INDEX, () -> x.asTagged(3, 0));
        thrown(x, INDEX, () -> x.asTagged(0, 2));
        thrown(x, INDEX, () -> x.asTagged(0, -1));
        due(0, x.asTagged(0, 1));
        due("", x.shown(0, 0));
        due(3, x.asTagged(1, 0));
        due(2, x.ordered(1, 1));
        due("c|a|b", x.shown(1, 0));
        x.walk(1);
        due(3, x.asTagged(1, 0));
        due(NONE, x.walked(0));
        x.take(1, 2);
        due(3, x.tagged(0, false));
    }

    private static void promise21() {
        Patchstore x = chain();
        thrown(x, INDEX, () -> x.walk(3));
        thrown(x, INDEX, () -> x.walk(-1));
        due(0, x.walk(2));
        due(3, x.walk(0));
        due(0, x.walked(0));
        due(0, x.walked(1));
        due(NONE, x.walked(2));
        x.forth();
        due(3, x.walk(0));
        due(0, x.walked(1));
        due(NONE, x.walked(2));
        thrown(x, INDEX, () -> x.walk(3));
        due(0, x.walked(0));
        walkEnds();
        walkStays();
    }

    private static void walkEnds() {
        for (int k = 0; k < 14; k++) {
            Patchstore x = ring();
            write(x, "q");
            x.kill(2, 0);
            x.tag(0);
            x.walk(0);
            x.forth();
            Call[] calls = {() -> x.record(0, 1), () -> x.kill(0, 0), () -> x.tell(0, 0, 1),
                () -> x.name(0, 0, 5), () -> x.settle(0, 0, 0, 0), () -> x.swap(0, 0), () -> x.take(0, 3),
                () -> x.takeAll(0, 3), () -> x.asTagged(0, 0), () -> reviveIn(x), () -> putBack(x),
                () -> putAllBack(x), () -> pullBack(x), () -> moveIn(x)};
            due(14, calls.length);
            calls[k].answer();
            due(NONE, x.walked(0));
            due(NONE, x.walked(1));
            due(NONE, x.walked(2));
            thrown(x, STATE, x::forth);
        }
    }

    private static Object reviveIn(Patchstore x) {
        x.kill(0, 0);
        x.walk(0);
        x.forth();
        return x.revive(0, 0);
    }

    private static Object putBack(Patchstore x) {
        x.take(0, 3);
        x.walk(0);
        x.forth();
        return x.put(0, 3);
    }

    private static Object putAllBack(Patchstore x) {
        x.take(0, 3);
        x.walk(0);
        x.forth();
        return x.putAll(0, 3);
    }

    private static Object pullBack(Patchstore x) {
        x.take(0, 3);
        x.walk(0);
        x.forth();
        return x.pull(0, 1);
    }

    private static Object moveIn(Patchstore x) {
        x.take(0, 3);
        x.walk(0);
        x.forth();
        return x.move(0, 0, 0, 1, 1);
    }

    private static void walkStays() {
        Patchstore x = ring();
        x.pull(2, 0);
        x.walk(0);
        x.forth();
        x.tag(0);
        x.tag(2);
        x.pull(0, 0);
        x.pull(0, 1);
        x.putAll(0, 0);
        x.takeAll(1, 0);
        x.kill(2, 0);
        x.take(2, 4);
        x.asTagged(2, 0);
        x.asTagged(1, 1);
        cant(x, () -> x.put(0, 0));
        cant(x, () -> x.take(0, 0));
        cant(x, () -> x.settle(0, 0, 5, 0));
        cant(x, () -> x.name(0, 0, 0));
        write(x, "ab");
        x.load(0, 0);
        x.knock();
        x.isSound();
        due(0, x.walked(0));
        due(1, x.walked(1));
        due(0, x.walked(2));
    }

    private static void promise22() {
        Patchstore x = chain();
        thrown(x, STATE, x::forth);
        x.walk(1);
        cant(x, x::forth);
        x.walk(0);
        due(0, x.forth());
        due(1, x.forth());
        due(2, x.walked(1));
        due(1, x.walked(2));
        due(2, x.forth());
        cant(x, x::forth);
        due(2, x.walked(2));
        due(3, x.walked(1));
    }

    private static void promise23() {
        Patchstore x = chain();
        thrown(x, STATE, x::back);
        x.walk(0);
        cant(x, x::back);
        x.forth();
        x.forth();
        due(1, x.back());
        due(1, x.walked(1));
        due(1, x.walked(2));
        due(1, x.forth());
        due(1, x.back());
        due(0, x.back());
        cant(x, x::back);
        due(0, x.walked(2));
        due(0, x.walked(1));
    }

    private static void promise24() {
        Patchstore x = threeFree();
        thrown(x, STATE, x::drop);
        x.walk(0);
        cant(x, x::drop);
        due(0, x.forth());
        due(1, x.forth());
        due(2, x.drop());
        due(0, x.walked(0));
        due(1, x.walked(1));
        due(NONE, x.walked(2));
        due(5, x.ofStore(0, 1));
        due("", x.shown(0, 1));
        cant(x, x::drop);
        due(2, x.forth());
        due(2, x.back());
        due(1, x.drop());
        due(1, x.walked(1));
        due("a", x.shown(0, 0));
        cant(x, x::forth);
        due(0, x.back());
        due(0, x.drop());
        due(0, x.walked(1));
        cant(x, x::back);
        cant(x, x::drop);
        Patchstore hung = chain();
        hung.walk(0);
        hung.forth();
        cant(hung, hung::drop);
        due(0, hung.walked(2));
        hung.forth();
        due(2, hung.drop());
        due(2, hung.forth());
        due(1, hung.drop());
        due(0, hung.back());
        due(0, hung.drop());
    }

    private static void promise25() {
        Patchstore x = fresh();
        for (int k = 1; k <= 5; k++) {
            due(k, x.knock());
        }
        due(5, x.house(3));
        due(1, fresh().knock());
    }

    private static void promise26() {
        Patchstore x = threeSides();
        due("a|<x=y|z=w>|c", x.shown(0, 0));
        due("a|y|z|c", x.shown(1, 0));
        due("", x.shown(0, 1));
        thrown(x, INDEX, () -> x.shown(3, 0));
        thrown(x, INDEX, () -> x.shown(-1, 0));
        thrown(x, INDEX, () -> x.shown(0, 2));
        thrown(x, INDEX, () -> x.shown(0, -1));
        due("<a|b=c>", ring().shown(0, 0));
        Patchstore two = fresh();
        record(two, 0, 0, "m");
        two.pull(1, 0);
        record(two, 0, 0, "amx");
        record(two, 1, 0, "bmy");
        two.pull(0, 1);
        due("<a=b>|m|<x=y>", two.shown(0, 0));
        two.kill(0, 0);
        due("<a=b>|<x=y>", two.shown(0, 0));
        two.kill(0, 4);
        due("<a=b>|x", two.shown(0, 0));
        due(119, sixtyRow().shown(0, 0).length());
    }

    private static void promise27() {
        Patchstore x = threeSides();
        int[] all = {6, 0, 3, 1, 4, 5};
        for (int what = 0; what <= 5; what++) {
            due(all[what], x.ofPart(0, 0, what));
            due(0, x.ofPart(0, 1, what));
        }
        x.kill(0, 4);
        int[] killed = {5, 1, 3, 1, 3, 3};
        for (int what = 0; what <= 5; what++) {
            due(killed[what], x.ofPart(0, 0, what));
        }
        thrown(x, INDEX, () -> x.ofPart(3, 0, 6));
        thrown(x, INDEX, () -> x.ofPart(0, 2, 6));
        thrown(x, ARGUMENT, () -> x.ofPart(0, 0, 6));
        thrown(x, ARGUMENT, () -> x.ofPart(0, 0, -1));
        due(3, ring().ofPart(0, 0, 4));
        due(3, ring().ofPart(0, 0, 5));
        due(60, sixtyRow().ofPart(0, 0, 2));
    }

    private static void promise28() {
        Patchstore x = threeSides();
        x.kill(0, 0);
        due(5, x.move(1, 0, 0, 1, 1));
        int[][] row = {{2, 23, 1, 1, 0}, {3, 24, 2, 2, 0}, {4, 25, 2, 2, 0}, {5, 22, 3, 3, 0}, {1, 2, 0, 0, 1}};
        for (int place = 0; place < 5; place++) {
            for (int what = 0; what <= 4; what++) {
                due(row[place][what], x.at(0, 0, place, what));
            }
        }
        int[] moved = {6, 0, 5, 0, 1};
        for (int what = 0; what <= 4; what++) {
            due(moved[what], x.at(1, 0, 1, what));
        }
        thrown(x, INDEX, () -> x.at(3, 0, 0, 5));
        thrown(x, INDEX, () -> x.at(0, 2, 0, 5));
        thrown(x, INDEX, () -> x.at(0, 0, 5, 5));
        thrown(x, INDEX, () -> x.at(0, 0, -1, 0));
        thrown(x, INDEX, () -> x.at(0, 1, 0, 0));
        thrown(x, ARGUMENT, () -> x.at(0, 0, 4, 5));
        thrown(x, ARGUMENT, () -> x.at(0, 0, 4, -1));
    }

    private static void promise29() {
        Patchstore x = threeSides();
        due(3, x.sides(0, 0, 0));
        due(0, x.sides(0, 0, 1));
        due(0, x.sides(0, 0, Integer.MAX_VALUE));
        due(0, x.sides(1, 0, 0));
        thrown(x, INDEX, () -> x.sides(3, 0, -1));
        thrown(x, INDEX, () -> x.sides(0, 2, -1));
        thrown(x, ARGUMENT, () -> x.sides(0, 0, -1));
        Patchstore one = ring();
        due(2, one.sides(0, 0, 0));
        one.kill(0, 2);
        due(1, one.sides(0, 0, 0));
    }

    private static void promise30() {
        Patchstore x = threeSides();
        due("x", x.side(0, 0, 0, 0));
        due("y|z", x.side(0, 0, 0, 1));
        due("w", x.side(0, 0, 0, 2));
        due("", x.side(0, 0, 0, 3));
        due("", x.side(0, 0, 1, 0));
        due("", x.side(1, 0, 0, 0));
        thrown(x, INDEX, () -> x.side(3, 0, -1, 0));
        thrown(x, INDEX, () -> x.side(0, 2, 0, -1));
        thrown(x, ARGUMENT, () -> x.side(0, 0, -1, 0));
        thrown(x, ARGUMENT, () -> x.side(0, 0, 0, -1));
        thrown(x, ARGUMENT, () -> x.side(0, 0, 9, -1));
    }

    private static void promise31() {
        Patchstore x = threeSides();
        due("a0 x1 y2 z2 w3 c0", x.blame(0, 0));
        due("", x.blame(0, 1));
        x.move(1, 0, 0, 1, 3);
        due("y2 z2 c0 a0", x.blame(1, 0));
        thrown(x, INDEX, () -> x.blame(3, 0));
        thrown(x, INDEX, () -> x.blame(0, 2));
        for (int k = 0; x.house(1) < 12; k++) {
            x.name(2, 1, 4 + k % 2);
        }
        record(x, 2, 1, "q");
        due("q12", x.blame(2, 1));
    }

    private static void promise32() {
        Patchstore x = fresh();
        due(0, x.nameOf(0, 0));
        due(1, x.nameOf(0, 1));
        x.name(0, 0, 7);
        x.name(1, 0, 7);
        x.name(2, 0, 8);
        due(7, x.nameOf(0, 0));
        due(1, x.nameOf(0, 1));
        x.pull(0, 1);
        due(7, x.nameOf(0, 0));
        x.pull(0, 2);
        due(-2, x.nameOf(0, 0));
        x.name(1, 0, 9);
        x.pull(0, 1);
        due(-2, x.nameOf(0, 0));
        due(4, x.name(0, 0, 0));
        due(0, x.nameOf(0, 0));
        x.take(0, 4);
        due(-2, x.nameOf(0, 0));
        thrown(x, INDEX, () -> x.nameOf(3, 0));
        thrown(x, INDEX, () -> x.nameOf(-1, 0));
        thrown(x, INDEX, () -> x.nameOf(0, 2));
        thrown(x, INDEX, () -> x.nameOf(0, -1));
    }

    private static void promise33() {
        Patchstore x = chain();
        due(2, x.state(0, 0));
        due(0, x.state(1, 0));
        x.kill(0, 0);
        due(1, x.state(0, 0));
        due(2, x.state(0, 1));
        x.take(0, 1);
        due(0, x.state(0, 1));
        x.revive(0, 0);
        due(2, x.state(0, 0));
        thrown(x, INDEX, () -> x.state(3, 0));
        thrown(x, INDEX, () -> x.state(0, 3));
        thrown(x, INDEX, () -> x.state(0, -1));
    }

    private static void promise34() {
        Patchstore x = threeSides();
        due(true, x.isAhead(0, 0, 1));
        due(false, x.isAhead(0, 1, 0));
        due(true, x.isAhead(0, 3, 4));
        due(false, x.isAhead(0, 2, 3));
        due(false, x.isAhead(0, 3, 2));
        due(false, x.isAhead(0, 0, 0));
        due(true, x.isAhead(0, 2, 1));
        due(false, x.isAhead(1, 2, 1));
        due(false, x.isAhead(1, 0, 5));
        x.kill(0, 0);
        due(true, x.isAhead(0, 0, 5));
        record(x, 0, 1, "q");
        due(false, x.isAhead(0, 0, 6));
        due(false, x.isAhead(0, 6, 0));
        thrown(x, INDEX, () -> x.isAhead(3, 0, 0));
        thrown(x, INDEX, () -> x.isAhead(0, 7, 0));
        thrown(x, INDEX, () -> x.isAhead(0, 0, 7));
        thrown(x, INDEX, () -> x.isAhead(0, -1, 0));
        thrown(x, INDEX, () -> x.isAhead(0, 0, -1));
        Patchstore round = ring();
        due(false, round.isAhead(0, 0, 1));
        due(false, round.isAhead(0, 1, 0));
        due(true, round.isAhead(1, 2, 1));
        Patchstore over = fresh();
        record(over, 0, 0, "abc");
        over.kill(0, 1);
        due(true, over.isAhead(0, 0, 2));
        due("a|c", over.shown(0, 0));
    }

    private static void promise35() {
        Patchstore x = fresh();
        due(true, x.isAlike(0, 2));
        record(x, 0, 0, "ab");
        due(false, x.isAlike(0, 1));
        due(true, x.isAlike(0, 0));
        record(x, 1, 0, "ab");
        due(true, x.isAlike(0, 1));
        record(x, 1, 1, "ab");
        due(false, x.isAlike(0, 1));
        record(x, 0, 1, "ac");
        due(false, x.isAlike(0, 1));
        record(x, 0, 1, "abc");
        due(false, x.isAlike(0, 1));
        record(x, 0, 1, "ab");
        due(true, x.isAlike(0, 1));
        due(true, x.isAlike(1, 0));
        thrown(x, INDEX, () -> x.isAlike(3, 0));
        thrown(x, INDEX, () -> x.isAlike(0, 3));
        thrown(x, INDEX, () -> x.isAlike(0, -1));
        Patchstore sides = fresh();
        record(sides, 0, 0, "a");
        record(sides, 1, 0, "b");
        record(sides, 2, 0, "ab");
        sides.pull(0, 1);
        due("<a=b>", sides.shown(0, 0));
        due(false, sides.isAlike(0, 2));
    }

    private static void promise36() {
        Patchstore x = fresh();
        thrown(x, INDEX, () -> x.ofLine(0, 7));
        record(x, 0, 1, "ac");
        record(x, 0, 1, "abc");
        int[][] lines = {{1, 0, 0, NONE, NONE, NONE, 0}, {1, 2, 0, 0, NONE, NONE, 0}, {1, 1, 1, 0, 1, NONE, 1}};
        for (int line = 0; line < 3; line++) {
            for (int what = 0; what <= 6; what++) {
                due(lines[line][what], x.ofLine(line, what));
            }
        }
        thrown(x, INDEX, () -> x.ofLine(3, 7));
        thrown(x, INDEX, () -> x.ofLine(-1, 0));
        thrown(x, ARGUMENT, () -> x.ofLine(0, 7));
        thrown(x, ARGUMENT, () -> x.ofLine(0, -1));
        x.move(0, 1, 2, 3, 1);
        x.move(0, 1, 1, 2, 0);
        due(3, x.ofLine(4, 5));
        due(1, x.ofLine(3, 5));
        due(0, x.ofLine(4, 6));
        due(3, x.ofLine(4, 2));
    }

    private static void promise37() {
        Patchstore x = fresh();
        thrown(x, INDEX, () -> x.ofChange(0, 10));
        record(x, 0, 1, "ab");
        record(x, 0, 1, "cb");
        x.revive(0, 0);
        x.name(0, 1, 9);
        x.tell(0, 2, 0);
        int[][] changes = {
            {1, 2, 2, 0, 0, 0, NONE, 0, 0, 2 + 4},
            {1, 2, 1, 1, 0, 0, NONE, 1, 1, 4},
            {1, 1, 0, 0, 1, 0, NONE, 3, 3, 0},
            {1, 1, 0, 0, 0, 0, 9, 0, 0, 0},
        };
        due("+0 +1", x.edits(0));
        due("-0 +2", x.edits(1));
        due(NONE, x.ofLine(2, 3));
        due(1, x.ofLine(2, 4));
        changes[0][9] |= 16;
        changes[1][9] |= 16;
        for (int change = 0; change < 4; change++) {
            for (int what = 0; what <= 9; what++) {
                due(changes[change][what], x.ofChange(change, what));
            }
        }
        due(1, x.ofChange(4, 5));
        due(3, x.ofChange(4, 7));
        thrown(x, INDEX, () -> x.ofChange(5, 10));
        thrown(x, INDEX, () -> x.ofChange(-1, 0));
        thrown(x, ARGUMENT, () -> x.ofChange(4, 10));
        thrown(x, ARGUMENT, () -> x.ofChange(4, -1));
        Patchstore far = chain();
        far.kill(0, 1);
        far.revive(0, 1);
        due(2 + 8, far.ofChange(4, 7));
        due(1 + 2 + 8, far.ofChange(4, 8));
        due(2 + 4 + 8 + 16, far.ofChange(0, 9));
        due(24, far.ofChange(1, 9));
    }

    private static void promise38() {
        Patchstore x = ring();
        thrown(x, INDEX, () -> x.edits(4));
        thrown(x, INDEX, () -> x.edits(-1));
        due("+0 +1", x.edits(0));
        due("1>2", x.edits(2));
        x.kill(0, 2);
        x.revive(0, 2);
        x.name(0, 0, 25);
        due("-2", x.edits(4));
        due("^2", x.edits(5));
        due("=z", x.edits(6));
        record(x, 0, 1, "abcdefghij");
        due("+3 +4 +5 +6 +7 +8 +9 +10 +11 +12", x.edits(7));
        x.move(0, 1, 0, 8, 1);
        due("-3 -4 -5 -6 -7 -8 -9 -10 +13 +14 +15 +16 +17 +18 +19 +20", x.edits(8));
    }

    private static void promise39() {
        Patchstore x = chain();
        int[] all = {3, 7, 2, 0, 2};
        int[] empty = {0, 0, 0, NONE, NONE};
        for (int what = 0; what <= 4; what++) {
            due(all[what], x.ofStore(0, what));
            due(empty[what], x.ofStore(1, what));
        }
        x.swap(0, 1);
        due(1, x.ofStore(0, 4));
        x.takeAll(0, 0);
        x.putAll(1, 2);
        due(1, x.ofStore(1, 2));
        due(5, x.ofStore(1, 1));
        thrown(x, INDEX, () -> x.ofStore(3, 5));
        thrown(x, INDEX, () -> x.ofStore(-1, 0));
        thrown(x, ARGUMENT, () -> x.ofStore(0, 5));
        thrown(x, ARGUMENT, () -> x.ofStore(0, -1));
    }

    private static void promise40() {
        Patchstore x = chain();
        x.swap(0, 1);
        due(0, x.ordered(0, 0));
        due(2, x.ordered(0, 1));
        due(1, x.ordered(0, 2));
        thrown(x, INDEX, () -> x.ordered(0, 3));
        thrown(x, INDEX, () -> x.ordered(0, -1));
        thrown(x, INDEX, () -> x.ordered(1, 0));
        thrown(x, INDEX, () -> x.ordered(3, 0));
        x.take(0, 1);
        thrown(x, INDEX, () -> x.ordered(0, 2));
    }

    private static void promise41() {
        Patchstore x = chain();
        x.swap(0, 1);
        due(0, x.placeOf(0, 0));
        due(2, x.placeOf(0, 1));
        due(1, x.placeOf(0, 2));
        due(NONE, x.placeOf(1, 0));
        x.take(0, 2);
        due(1, x.placeOf(0, 1));
        due(NONE, x.placeOf(0, 2));
        thrown(x, INDEX, () -> x.placeOf(3, 0));
        thrown(x, INDEX, () -> x.placeOf(0, 3));
        thrown(x, INDEX, () -> x.placeOf(0, -1));
    }

    private static void promise42() {
        Patchstore x = chain();
        x.putAll(1, 2);
        record(x, 1, 1, "q");
        due(8, x.lacks(0, 1));
        due(2, x.lacks(1, 0));
        due(7, x.lacks(2, 0));
        due(0, x.lacks(0, 2));
        due(0, x.lacks(0, 0));
        thrown(x, INDEX, () -> x.lacks(3, 0));
        thrown(x, INDEX, () -> x.lacks(0, 3));
        thrown(x, INDEX, () -> x.lacks(0, -1));
    }

    private static void promise43() {
        Patchstore x = fresh();
        record(x, 0, 0, "a");
        record(x, 0, 1, "b");
        record(x, 1, 0, "c");
        record(x, 1, 1, "d");
        record(x, 1, 1, "de");
        due(0, x.wouldClash(0, 0));
        due(1, x.wouldClash(0, 2));
        due(1, x.wouldClash(0, 4));
        due(0, x.wouldClash(2, 4));
        x.pull(0, 1);
        due(2, x.wouldClash(0, 0));
        due(2, x.wouldClash(0, 4));
        due(1, x.wouldClash(1, 1));
        due("<b=d=e>", x.shown(0, 1));
        x.take(0, 4);
        due(2, x.wouldClash(0, 4));
        due(15, x.ofStore(0, 1));
        thrown(x, INDEX, () -> x.wouldClash(3, 0));
        thrown(x, INDEX, () -> x.wouldClash(0, 5));
        thrown(x, INDEX, () -> x.wouldClash(0, -1));
        Patchstore settled = threeSides();
        settled.settle(0, 0, 0, 0);
        due(0, settled.wouldClash(1, 4));
        due(1, settled.wouldClash(1, 1));
    }

    private static void promise44() {
        Patchstore x = fresh();
        due(NONE, x.search(0, 0, false));
        due(1, x.search(0, 0, true));
        record(x, 0, 0, "a");
        due(0, x.search(0, 0, false));
        due(1, x.search(0, 0, true));
        record(x, 0, 1, "b");
        x.kill(0, 0);
        due(NONE, x.search(0, 0, false));
        due(1, x.search(0, 0, true));
        record(x, 0, 1, "ba");
        due(0, x.search(0, 0, false));
        due(3, x.search(0, 0, true));
        x.swap(0, 1);
        due(2, x.ordered(0, 1));
        due(3, x.search(0, 0, false));
        due(3, x.search(0, 0, true));
        due(1, x.search(0, 1, false));
        record(x, 0, 1, "bac");
        due(4, x.search(0, 2, false));
        due(4, x.search(0, 2, true));
        due(1, x.search(0, 1, false));
        due(3, x.search(0, 1, true));
        due(NONE, x.search(0, 25, false));
        thrown(x, INDEX, () -> x.search(3, 26, true));
        thrown(x, INDEX, () -> x.search(-1, 0, true));
        thrown(x, ARGUMENT, () -> x.search(0, 26, true));
        thrown(x, ARGUMENT, () -> x.search(0, -1, false));
    }

    private static void promise45() {
        Patchstore x = chain();
        thrown(x, INDEX, () -> x.tagged(0, false));
        x.putAll(1, 2);
        x.tag(1);
        x.tag(2);
        due(2, x.tagged(0, false));
        due(5, x.tagged(0, true));
        due(0, x.tagged(1, false));
        due(0, x.tagged(1, true));
        thrown(x, INDEX, () -> x.tagged(2, true));
        thrown(x, INDEX, () -> x.tagged(-1, false));
    }

    private static void promise46() {
        Patchstore x = chain();
        for (int what = 0; what <= 2; what++) {
            due(NONE, x.walked(what));
        }
        x.pull(2, 0);
        x.walk(2);
        x.forth();
        x.forth();
        due(2, x.walked(0));
        due(2, x.walked(1));
        due(1, x.walked(2));
        thrown(x, ARGUMENT, () -> x.walked(3));
        thrown(x, ARGUMENT, () -> x.walked(-1));
    }

    private static void promise47() {
        Patchstore x = chain();
        x.tag(0);
        x.tag(0);
        x.knock();
        int[] all = {3, 3, 2, 1, 3};
        for (int what = 0; what <= 4; what++) {
            due(all[what], x.house(what));
        }
        x.takeAll(0, 0);
        due(3, x.house(0));
        due(3, x.house(1));
        thrown(x, ARGUMENT, () -> x.house(5));
        thrown(x, ARGUMENT, () -> x.house(-1));
    }

    private static void promise48() {
        Patchstore[] some = {fresh(), threeSides(), ring(), chain(), threeFree(), sixtyLines(), elevenLines()};
        for (Patchstore x : some) {
            due(true, x.isSound());
            String before = x.shown(0, 0) + x.shown(1, 0) + x.shown(2, 0) + x.ofStore(0, 1) + x.ofStore(1, 1);
            int last = x.ofStore(0, 4);
            due(true, x.isSound());
            due(before, x.shown(0, 0) + x.shown(1, 0) + x.shown(2, 0) + x.ofStore(0, 1) + x.ofStore(1, 1));
            due(last, x.ofStore(0, 4));
        }
    }

    private static void promise49() {
        Asked.Maker[] makers = {Bench::fresh, Bench::threeSides, Bench::ring, Bench::chain, Bench::threeFree,
            Bench::sixtyLines, Bench::elevenLines};
        for (Asked.Maker maker : makers) {
            due(new Asked(maker).digest(), maker.make().digest());
            Patchstore x = maker.make();
            long before = x.digest();
            x.knock();
            due(true, before != x.digest());
            Asked.Maker more = () -> walkedAndNamed(maker.make());
            due(new Asked(more).digest(), more.make().digest());
        }
        due(-1499049334518971753L, fresh().digest());
    }

    private static Patchstore walkedAndNamed(Patchstore x) {
        x.name(0, 1, 9);
        x.tag(0);
        x.walk(0);
        x.forth();
        return x;
    }

    private static final Runnable[] PROMISES = {
        PromiseTest::promise1, PromiseTest::promise2, PromiseTest::promise3, PromiseTest::promise4,
        PromiseTest::promise5, PromiseTest::promise6, PromiseTest::promise7, PromiseTest::promise8,
        PromiseTest::promise9, PromiseTest::promise10, PromiseTest::promise11, PromiseTest::promise12,
        PromiseTest::promise13, PromiseTest::promise14, PromiseTest::promise15, PromiseTest::promise16,
        PromiseTest::promise17, PromiseTest::promise18, PromiseTest::promise19, PromiseTest::promise20,
        PromiseTest::promise21, PromiseTest::promise22, PromiseTest::promise23, PromiseTest::promise24,
        PromiseTest::promise25, PromiseTest::promise26, PromiseTest::promise27, PromiseTest::promise28,
        PromiseTest::promise29, PromiseTest::promise30, PromiseTest::promise31, PromiseTest::promise32,
        PromiseTest::promise33, PromiseTest::promise34, PromiseTest::promise35, PromiseTest::promise36,
        PromiseTest::promise37, PromiseTest::promise38, PromiseTest::promise39, PromiseTest::promise40,
        PromiseTest::promise41, PromiseTest::promise42, PromiseTest::promise43, PromiseTest::promise44,
        PromiseTest::promise45, PromiseTest::promise46, PromiseTest::promise47, PromiseTest::promise48,
        PromiseTest::promise49,
    };

    public static void main(String[] args) {
        for (int k = 0; k < PROMISES.length; k++) {
            at = "promise " + (k + 1);
            PROMISES[k].run();
        }
        if (wrong > 0 || PROMISES.length != 49) {
            System.out.println("PromiseTest: " + wrong + " answers are not as due");
            System.exit(1);
        }
        System.out.println("PromiseTest: promises 1 to 49 hold");
    }
}
