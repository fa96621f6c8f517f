/** The boundary cases of making an object and looking at it (promises 1 and 6 to 11), each by itself. */
public final class LookEdgeTest extends Calls {
    private static final int[] FAR = {-1, MIN, MAX};

    public static void main(String[] args) {
        setsModulo6Is0();
        setsElseAPowerOf2();
        waysModulo4();
        returnsModulo17();
        upTo512Calls();
        entryWithoutOne();
        entryNoSuchSet();
        entryNoSuchSetWhenSIs0();
        entryNoSuchWay();
        entryNoSuchWhat();
        rowNoneWithout();
        rowFirstAndLast();
        rowWhenThereIsNone();
        rowNoSuchWhat();
        ringEmpty();
        ringNotSoDeep();
        ringFull();
        queuedEmpty();
        queuedWhenThereIsNone();
        queuedFull();
        queuedNoSuchWhat();
        storageWhereSIs0();
        storageWhereRIs0();
        storageMost();
        countNoneForAnotherWhat();
        countFirstAndLast();
        looksChangeNothing();
        refusedLooksChangeNothing();
        Due.end("LookEdgeTest");
    }

    private static void setsModulo6Is0() {
        int[] all = {0, 6, 12, -6, -12, MAX - 1, MIN + 2};
        for (int sets : all) {
            TargetRows x = new TargetRows(sets, 1, 1);
            Due.same("1: S is 0 when sets modulo 6 is 0: " + sets, x.count(15), 0);
        }
    }

    private static void setsElseAPowerOf2() {
        int[][] all = {{1, 1}, {2, 2}, {3, 4}, {4, 8}, {5, 16}, {7, 1}, {11, 16},
            {-1, 16}, {-2, 8}, {-3, 4}, {-4, 2}, {-5, 1}, {-7, 16}, {MAX, 1}, {MIN, 8}};
        for (int[] one : all) {
            TargetRows x = new TargetRows(one[0], 1, 1);
            String label = "1: else 2 to the power (sets modulo 6) - 1: " + one[0];
            Due.same(label, x.count(15), one[1]);
            Due.same(label + ": the last set", x.entry(one[1] - 1, 0, 0), NONE);
            Due.outOfBounds(label + ": behind the last set", () -> x.entry(one[1], 0, 0));
        }
    }

    private static void waysModulo4() {
        int[][] all = {{0, 4}, {1, 1}, {2, 2}, {3, 3}, {4, 4}, {5, 1}, {8, 4},
            {-1, 3}, {-2, 2}, {-3, 1}, {-4, 4}, {MAX, 3}, {MIN, 4}, {MIN + 1, 1}};
        for (int[] one : all) {
            TargetRows x = new TargetRows(1, one[0], 1);
            String label = "1: W is 1 + (ways - 1) modulo 4: " + one[0];
            Due.same(label, x.count(16), one[1]);
            Due.same(label + ": the last way", x.entry(0, one[1] - 1, 0), NONE);
            Due.outOfBounds(label + ": behind the last way", () -> x.entry(0, one[1], 0));
        }
    }

    private static void returnsModulo17() {
        int[][] all = {{0, 0}, {1, 1}, {16, 16}, {17, 0}, {18, 1}, {34, 0},
            {-1, 16}, {-16, 1}, {-17, 0}, {-18, 16}, {MAX, 8}, {MIN, 8}};
        for (int[] one : all) {
            TargetRows x = new TargetRows(0, 1, one[0]);
            String label = "1: R is returns modulo 17: " + one[0];
            Due.same(label, x.count(17), one[1]);
            for (int i = 0; i < one[1]; i++) {
                branch(x, 100, CALL, 7);
            }
            Due.same(label + ": so many are held", x.count(11), one[1]);
            Due.same(label + ": without an overflow", x.count(8), 0);
            branch(x, 100, CALL, 7);
            Due.same(label + ": one more overflows", x.count(8), 1);
        }
    }

    private static void upTo512Calls() {
        TargetRows x = new TargetRows(1, 1, 1);
        for (int i = 0; i < 255; i++) {
            branch(x, 100, JUMP, 400 + i);
        }
        Due.same("an object is used for at most 512 calls: the 511th", x.count(7), 254);
        Due.same("an object is used for at most 512 calls: the 512th", x.ask(100), 400 + 254);
    }

    private static void entryWithoutOne() {
        TargetRows x = new TargetRows(2, 2, 1);
        for (int slot = 0; slot < 4; slot++) {
            entryIs("6: NONE, 0, 0 without one", x, slot / 2, slot % 2, NONE, 0, 0);
        }
        branch(x, 0, JUMP, 0);
        entryIs("6: an entry of nothing but 0 is one", x, 0, 0, 0, JUMP, 0);
        entryIs("6: NONE, 0, 0 in the way beside it", x, 0, 1, NONE, 0, 0);
        entryIs("6: NONE, 0, 0 in the set beside it", x, 1, 0, NONE, 0, 0);
        branch(x, 8, RETURN, NONE);
        entryIs("6: an entry's own numbers", x, 0, 1, 1, RETURN, NONE);
    }

    private static void entryNoSuchSet() {
        TargetRows x = new TargetRows(5, 4, 1);
        for (int set : FAR) {
            Due.outOfBounds("6: no such set: " + set, () -> x.entry(set, 0, 0));
        }
        Due.outOfBounds("6: no such set: S", () -> x.entry(16, 0, 0));
        Due.same("6: set S - 1", x.entry(15, 3, 2), 0);
    }

    private static void entryNoSuchSetWhenSIs0() {
        TargetRows x = new TargetRows(0, 4, 1);
        branch(x, 0, JUMP, 400);
        int[] sets = {0, 1, -1, MIN, MAX};
        for (int set : sets) {
            Due.outOfBounds("6: no such set where S is 0: " + set, () -> x.entry(set, 0, 0));
        }
    }

    private static void entryNoSuchWay() {
        for (int ways = 1; ways <= 4; ways++) {
            int beyond = ways;
            TargetRows x = new TargetRows(5, ways, 1);
            for (int way : FAR) {
                Due.outOfBounds("6: no such way: " + way, () -> x.entry(0, way, 0));
            }
            Due.outOfBounds("6: no such way: W", () -> x.entry(0, beyond, 0));
            Due.outOfBounds("6: no such way: W, of the last set", () -> x.entry(15, beyond, 0));
            Due.same("6: way W - 1", x.entry(0, ways - 1, 2), 0);
        }
    }

    private static void entryNoSuchWhat() {
        TargetRows x = new TargetRows(1, 1, 1);
        branch(x, 4, CALL, 400);
        for (int what : FAR) {
            Due.outOfBounds("6: no such what: " + what, () -> x.entry(0, 0, what));
        }
        Due.outOfBounds("6: no such what: 3", () -> x.entry(0, 0, 3));
        Due.outOfBounds("6: no such set, way and what", () -> x.entry(1, 1, 3));
        entryIs("6: what 0 to 2", x, 0, 0, 1, CALL, 400);
    }

    private static void rowNoneWithout() {
        TargetRows x = new TargetRows(1, 1, 1);
        for (int k = 0; k < 64; k++) {
            Due.same("7: tag NONE without, row " + k, x.row(k, 0), NONE);
            Due.same("7: target 0 without, row " + k, x.row(k, 1), 0);
        }
        branch(x, 8, JUMP, 2);
        Due.same("7: a jump makes no row", x.row(2, 0), NONE);
        branch(x, 8, BY_NUMBER, 2);
        Due.same("7: a tag of 0 is one", x.row(2, 0), 0);
    }

    private static void rowFirstAndLast() {
        TargetRows x = new TargetRows(1, 1, 1);
        branch(x, 63 << 2, BY_NUMBER, 3);
        Due.same("7: tag of the last row", x.row(63, 0), 0);
        Due.same("7: target of the last row", x.row(63, 1), 3);
        branch(x, 64 << 2, BY_NUMBER, 2);
        Due.same("7: tag of the first row, one place on", x.row(0, 0), 1);
        Due.same("7: target of the first row, one place on", x.row(0, 1), 2);
    }

    private static void rowWhenThereIsNone() {
        TargetRows x = new TargetRows(1, 1, 1);
        for (int k : FAR) {
            Due.outOfBounds("7: when there is none: " + k, () -> x.row(k, 0));
        }
        Due.outOfBounds("7: when there is none: 64", () -> x.row(64, 0));
        Due.outOfBounds("7: when there is none: 64, target", () -> x.row(64, 1));
    }

    private static void rowNoSuchWhat() {
        TargetRows x = new TargetRows(1, 1, 1);
        for (int what : FAR) {
            Due.outOfBounds("7: no such what: " + what, () -> x.row(63, what));
        }
        Due.outOfBounds("7: no such what: 2", () -> x.row(0, 2));
        Due.outOfBounds("7: no such row and no such what", () -> x.row(64, 2));
    }

    private static void ringEmpty() {
        for (int returns = 0; returns <= 16; returns++) {
            TargetRows x = new TargetRows(1, 1, returns);
            Due.outOfBounds("8: empty, R " + returns, () -> x.ring(0));
        }
    }

    private static void ringNotSoDeep() {
        TargetRows x = new TargetRows(0, 1, 3);
        branch(x, 100, CALL, 7);
        branch(x, 200, CALL, 7);
        for (int k : FAR) {
            Due.outOfBounds("8: when it is not so deep: " + k, () -> x.ring(k));
        }
        ringIs("8: two deep of three", x, 204, 104);
        branch(x, 300, RETURN, 7);
        ringIs("8: what was popped is gone", x, 104);
        branch(x, 300, RETURN, 7);
        ringIs("8: all was popped", x);
    }

    private static void ringFull() {
        TargetRows x = new TargetRows(0, 1, 16);
        for (int i = 0; i < 16; i++) {
            branch(x, 100 * i, CALL, 7);
        }
        Due.same("8: the top of a full ring", x.ring(0), 1504);
        Due.same("8: the lowest of a full ring", x.ring(15), 4);
        Due.outOfBounds("8: below the lowest of a full ring", () -> x.ring(16));
    }

    private static void queuedEmpty() {
        TargetRows x = new TargetRows(1, 1, 1);
        Due.outOfBounds("9: nothing told yet", () -> x.queued(0, 0));
        branch(x, 100, JUMP, 104);
        Due.outOfBounds("9: all is checked", () -> x.queued(0, 0));
        x.next(100);
        x.flush();
        Due.outOfBounds("9: all is flushed", () -> x.queued(0, 0));
        tell(x, 100, 2);
        x.check(JUMP, true, 400);
        Due.outOfBounds("9: all is lost by a miss", () -> x.queued(0, 1));
    }

    private static void queuedWhenThereIsNone() {
        TargetRows x = new TargetRows(1, 1, 1);
        x.next(100);
        for (int k : FAR) {
            Due.outOfBounds("9: when there is none: " + k, () -> x.queued(k, 0));
        }
        Due.outOfBounds("9: behind the only one", () -> x.queued(1, 0));
        Due.same("9: the only one's place", x.queued(0, 0), 100);
        Due.same("9: what was told of it", x.queued(0, 1), 104);
    }

    private static void queuedFull() {
        TargetRows x = new TargetRows(0, 1, 1);
        for (int i = 0; i < 21; i++) {
            if (i >= 16) {
                x.check(JUMP, false, 0);
            }
            x.next(100 * i);
        }
        for (int k = 0; k < 16; k++) {
            Due.same("9: place " + k + " of a full queue that wrapped", x.queued(k, 0), 100 * (k + 5));
            Due.same("9: told " + k + " of a full queue that wrapped", x.queued(k, 1), 100 * (k + 5) + 4);
        }
        Due.outOfBounds("9: behind a full queue", () -> x.queued(16, 0));
        Due.outOfBounds("9: before a full queue that wrapped", () -> x.queued(-1, 0));
    }

    private static void queuedNoSuchWhat() {
        TargetRows x = new TargetRows(1, 1, 1);
        x.next(100);
        for (int what : FAR) {
            Due.outOfBounds("9: no such what: " + what, () -> x.queued(0, what));
        }
        Due.outOfBounds("9: no such what: 2", () -> x.queued(0, 2));
        Due.outOfBounds("9: none and no such what", () -> x.queued(1, 2));
    }

    private static void storageWhereSIs0() {
        for (int ways = 1; ways <= 4; ways++) {
            Due.same("10: S 0, whatever W", new TargetRows(6, ways, 1).storage(), 64 * 40 + 32 + 24);
        }
    }

    private static void storageWhereRIs0() {
        Due.same("10: R 0", new TargetRows(1, 1, 17).storage(), 42 + 64 * 40 + 24);
        Due.same("10: S 0 and R 0", new TargetRows(0, 1, 0).storage(), 64 * 40 + 24);
    }

    private static void storageMost() {
        TargetRows x = new TargetRows(5, 4, 16);
        Due.same("10: all as large as can be", x.storage(), 64 * 42 + 64 * 40 + 16 * 32 + 24);
        tell(x, 100, 16);
        x.check(CALL, true, 400);
        Due.same("10: the same when used", x.storage(), 5784);
    }

    private static void countNoneForAnotherWhat() {
        TargetRows x = new TargetRows(5, 4, 16);
        int[] others = {-1, -2, 18, 19, MIN, MAX};
        for (int what : others) {
            Due.same("11: NONE for another what: " + what, x.count(what), NONE);
        }
    }

    private static void countFirstAndLast() {
        TargetRows x = new TargetRows(5, 4, 16);
        Due.same("11: the first what", x.count(0), 0);
        Due.same("11: the last what", x.count(17), 16);
        branch(x, 100, JUMP, 104);
        branch(x, 100, JUMP, 400);
        Due.same("11: checked", x.count(0), 2);
        Due.same("11: right", x.count(1), 1);
        Due.same("11: the first cause", x.count(2), 0);
        Due.same("11: the last cause", x.count(7), 1);
    }

    /** An entry, a row, two places in the ring and two in the queue, so that a look could spoil each. */
    private static TargetRows someOfAll() {
        TargetRows x = new TargetRows(2, 2, 3);
        branch(x, 64, BY_NUMBER, 1000);
        branch(x, 100, CALL, 400);
        tell(x, 100, 1);
        tell(x, 64, 1);
        return x;
    }

    private static void looksChangeNothing() {
        changesNothing("6: entry", LookEdgeTest::someOfAll, x -> x.entry(0, 0, 2));
        changesNothing("7: row", LookEdgeTest::someOfAll, x -> x.row(16, 1));
        changesNothing("8: ring", LookEdgeTest::someOfAll, x -> x.ring(1));
        changesNothing("9: queued", LookEdgeTest::someOfAll, x -> x.queued(1, 1));
        changesNothing("10: storage", LookEdgeTest::someOfAll, TargetRows::storage);
        changesNothing("11: count", LookEdgeTest::someOfAll, x -> x.count(10));
        changesNothing("11: count of another what", LookEdgeTest::someOfAll, x -> x.count(18));
    }

    private static void refusedLooksChangeNothing() {
        changesNothing("6: entry refused", LookEdgeTest::someOfAll,
                x -> Due.outOfBounds("6: set 2", () -> x.entry(2, 0, 0)));
        changesNothing("7: row refused", LookEdgeTest::someOfAll,
                x -> Due.outOfBounds("7: row 64", () -> x.row(64, 0)));
        changesNothing("8: ring refused", LookEdgeTest::someOfAll,
                x -> Due.outOfBounds("8: place 2", () -> x.ring(2)));
        changesNothing("9: queued refused", LookEdgeTest::someOfAll,
                x -> Due.outOfBounds("9: place 2", () -> x.queued(2, 0)));
    }
}
