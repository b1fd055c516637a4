/**
 * The digest worked out from the other answers, by the document's row; of objects made alike, as each is good for 512
 * calls only.
 */
final class Asked {
    private static final int MOST = 200;

    interface Maker {
        Patchstore make();
    }

    private final Maker maker;
    private Patchstore made;
    private int asked = MOST;
    private long sum = 5902;

    Asked(Maker maker) {
        this.maker = maker;
    }

    private Patchstore one() {
        if (asked == MOST) {
            made = maker.make();
            asked = 0;
        }
        asked++;
        return made;
    }

    private void mix(long value) {
        sum = sum * 31 + value;
    }

    long digest() {
        for (int what = 0; what <= 4; what++) {
            mix(one().house(what));
        }
        for (int what = 0; what <= 2; what++) {
            mix(one().walked(what));
        }
        int lines = one().house(0);
        for (int line = 0; line < lines; line++) {
            for (int what = 0; what <= 6; what++) {
                mix(one().ofLine(line, what));
            }
        }
        int changes = one().house(1);
        for (int change = 0; change < changes; change++) {
            for (int what = 0; what <= 9; what++) {
                mix(one().ofChange(change, what));
            }
            mix(one().edits(change).length());
        }
        for (int store = 0; store <= 2; store++) {
            mixStore(store, changes);
        }
        int tags = one().house(2);
        for (int tag = 0; tag < tags; tag++) {
            mix(one().tagged(tag, false));
            mix(one().tagged(tag, true));
        }
        mix(one().isSound() ? 1 : 0);
        return sum;
    }

    private void mixStore(int store, int changes) {
        for (int what = 0; what <= 4; what++) {
            mix(one().ofStore(store, what));
        }
        int size = one().ofStore(store, 0);
        for (int place = 0; place < size; place++) {
            mix(one().ordered(store, place));
        }
        for (int part = 0; part <= 1; part++) {
            mixPart(store, part);
        }
        for (int other = 0; other <= 2; other++) {
            mix(one().lacks(store, other));
        }
        for (int change = 0; change < changes; change++) {
            mix(one().wouldClash(store, change));
        }
    }

    private void mixPart(int store, int part) {
        for (int what = 0; what <= 5; what++) {
            mix(one().ofPart(store, part, what));
        }
        mix(one().shown(store, part).length());
        int size = one().ofPart(store, part, 0);
        for (int place = 0; place < size; place++) {
            mix(one().at(store, part, place, 0));
            mix(one().at(store, part, place, 3));
            mix(one().at(store, part, place, 4));
        }
        mix(one().nameOf(store, part));
    }
}
