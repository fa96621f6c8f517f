/** Calls that several tests make; they extend it to name them shortly. */
abstract class Calls {
    static final int JUMP = 0;
    static final int CALL = 1;
    static final int RETURN = 2;
    static final int BY_NUMBER = 3;
    static final int NONE = TargetRows.NONE;
    static final int MIN = Integer.MIN_VALUE;
    static final int MAX = Integer.MAX_VALUE;
    static final int LAST_COUNT = 17;

    interface Maker {
        TargetRows make();
    }

    interface Change {
        void on(TargetRows x);
    }

    static int branch(TargetRows x, int place, int kind, int target) {
        x.next(place);
        return x.check(kind, true, target);
    }

    static int notTaken(TargetRows x, int place, int kind) {
        x.next(place);
        return x.check(kind, false, 0);
    }

    static void tell(TargetRows x, int place, int times) {
        for (int i = 0; i < times; i++) {
            x.next(place);
        }
    }

    static int[] counts(TargetRows x) {
        int[] all = new int[LAST_COUNT + 1];
        for (int what = 0; what <= LAST_COUNT; what++) {
            all[what] = x.count(what);
        }
        return all;
    }

    static void ringIs(String label, TargetRows x, int... fromTop) {
        Due.same(label + ": depth", x.count(11), fromTop.length);
        for (int k = 0; k < fromTop.length; k++) {
            Due.same(label + ": ring(" + k + ")", x.ring(k), fromTop[k]);
        }
        Due.outOfBounds(label + ": ring(" + fromTop.length + ")", () -> x.ring(fromTop.length));
    }

    static void entryIs(String label, TargetRows x, int set, int way, int tag, int kind, int target) {
        Due.same(label + ": tag", x.entry(set, way, 0), tag);
        Due.same(label + ": kind", x.entry(set, way, 1), kind);
        Due.same(label + ": target", x.entry(set, way, 2), target);
    }

    /**
     * Compares with a second object that did not get the change: to look at one object twice
     * would take more than the 512 calls that the document promises.
     */
    static void changesNothing(String label, Maker maker, Change change) {
        TargetRows changed = maker.make();
        change.on(changed);
        sameInside(label, changed, maker.make());
    }

    static void sameInside(String label, TargetRows got, TargetRows want) {
        int[] due = counts(want);
        for (int what = 0; what <= LAST_COUNT; what++) {
            Due.same(label + ": count(" + what + ")", got.count(what), due[what]);
        }
        for (int k = 0; k < due[11]; k++) {
            Due.same(label + ": ring(" + k + ")", got.ring(k), want.ring(k));
        }
        for (int k = 0; k < due[10]; k++) {
            Due.same(label + ": queued(" + k + ", 0)", got.queued(k, 0), want.queued(k, 0));
            Due.same(label + ": queued(" + k + ", 1)", got.queued(k, 1), want.queued(k, 1));
        }
        for (int k = 0; k < 64; k++) {
            Due.same(label + ": row(" + k + ", 0)", got.row(k, 0), want.row(k, 0));
            Due.same(label + ": row(" + k + ", 1)", got.row(k, 1), want.row(k, 1));
        }
        sameEntries(label, got, want, due[15], due[16]);
    }

    private static void sameEntries(String label, TargetRows got, TargetRows want, int sets, int ways) {
        for (int set = 0; set < sets; set++) {
            for (int way = 0; way < ways; way++) {
                entryIs(label + ": entry(" + set + ", " + way + ")", got, set, way,
                        want.entry(set, way, 0), want.entry(set, way, 1), want.entry(set, way, 2));
            }
        }
    }
}
