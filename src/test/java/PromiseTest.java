/** Each promise of the document, with answers worked out by hand. */
public final class PromiseTest extends Calls {
    public static void main(String[] args) {
        newObjectSizes();
        newObjectIsEmpty();
        askTellsByKind();
        askChangesNothing();
        askAtTheEdgesOfInt();
        tagsAndSets();
        askByNumberUsesItsRow();
        nextMovesTheRing();
        nextRefusesTheSeventeenth();
        checkRight();
        checkCauses();
        checkCausesInOrder();
        checkAfterTheEntryWent();
        checkRefuses();
        checkWrapsTheQueue();
        missRepairsTheRing();
        missRepairsAnOverflow();
        missMovesTheRing();
        notTakenUpdatesNothing();
        oldestEntryGoes();
        flushLosesTheQueue();
        flushOfNothing();
        entryAnswers();
        rowAnswers();
        rowsFoldTheHistory();
        rowUsesTheHistoryAtTheCheck();
        ringAnswers();
        ringOfOnePlace();
        ringOfNoPlaces();
        queuedAnswers();
        storageAnswers();
        countAnswers();
        Due.end("PromiseTest");
    }

    private static void unchanged(String label, TargetRows x, int[] before) {
        for (int what = 0; what <= LAST_COUNT; what++) {
            Due.same(label + ", count(" + what + ") as before", x.count(what), before[what]);
        }
    }

    private static void size(int sets, int ways, int returns, int s, int w, int r) {
        TargetRows x = new TargetRows(sets, ways, returns);
        String label = "1: new(" + sets + ", " + ways + ", " + returns + ") ";
        Due.same(label + "S", x.count(15), s);
        Due.same(label + "W", x.count(16), w);
        Due.same(label + "R", x.count(17), r);
    }

    private static void newObjectSizes() {
        size(0, 0, 0, 0, 4, 0);
        size(1, 1, 1, 1, 1, 1);
        size(2, 2, 2, 2, 2, 2);
        size(3, 3, 15, 4, 3, 15);
        size(4, 4, 16, 8, 4, 16);
        size(5, 5, 17, 16, 1, 0);
        size(6, 6, 18, 0, 2, 1);
        size(-1, -1, -1, 16, 3, 16);
        size(-5, -2, -16, 1, 2, 1);
        size(-6, -3, -17, 0, 1, 0);
        size(Integer.MIN_VALUE, Integer.MIN_VALUE, Integer.MIN_VALUE, 8, 4, 8);
        size(Integer.MAX_VALUE, Integer.MAX_VALUE, Integer.MAX_VALUE, 1, 3, 8);
    }

    private static void newObjectIsEmpty() {
        TargetRows x = new TargetRows(3, 3, 5);
        for (int what = 0; what < 15; what++) {
            Due.same("1: count(" + what + ") of a new one", x.count(what), 0);
        }
        for (int set = 0; set < 4; set++) {
            for (int way = 0; way < 3; way++) {
                Due.same("6: tag of a new one", x.entry(set, way, 0), TargetRows.NONE);
                Due.same("6: kind of a new one", x.entry(set, way, 1), 0);
                Due.same("6: target of a new one", x.entry(set, way, 2), 0);
            }
        }
        for (int k = 0; k < 64; k++) {
            Due.same("7: row tag of a new one", x.row(k, 0), TargetRows.NONE);
            Due.same("7: row target of a new one", x.row(k, 1), 0);
        }
        Due.outOfBounds("8: ring(0) of a new one", () -> x.ring(0));
        Due.outOfBounds("9: queued(0, 0) of a new one", () -> x.queued(0, 0));
    }

    private static void askTellsByKind() {
        TargetRows x = new TargetRows(5, 4, 4);
        Due.same("2: ask without an entry", x.ask(100), 104);
        branch(x, 100, JUMP, 400);
        Due.same("2: ask of a jump", x.ask(100), 400);
        branch(x, 104, RETURN, 500);
        Due.same("2: ask of a return, ring empty", x.ask(104), 500);
        branch(x, 108, CALL, 600);
        Due.same("2: ask of a call", x.ask(108), 600);
        Due.same("2: ask of a return, ring not empty", x.ask(104), 112);
        branch(x, 112, BY_NUMBER, 700);
        Due.same("2: ask of a branch by number, row unknown", x.ask(112), 700);
    }

    private static void askChangesNothing() {
        TargetRows x = new TargetRows(5, 4, 2);
        branch(x, 8, RETURN, 80);
        int[] empty = counts(x);
        Due.same("2: ask of a return", x.ask(8), 80);
        unchanged("2: ask of a return, ring empty", x, empty);
        branch(x, 100, CALL, 400);
        int[] before = counts(x);
        Due.same("2: ask of a call", x.ask(100), 400);
        Due.same("2: ask of a return", x.ask(8), 104);
        Due.same("2: ask of a return again", x.ask(8), 104);
        unchanged("2: ask", x, before);
        Due.same("2: ring after ask", x.ring(0), 104);
    }

    private static void askAtTheEdgesOfInt() {
        TargetRows x = new TargetRows(5, 4, 4);
        Due.same("2: ask(MAX)", x.ask(Integer.MAX_VALUE), Integer.MIN_VALUE + 3);
        Due.same("2: ask(MIN)", x.ask(Integer.MIN_VALUE), Integer.MIN_VALUE + 4);
        Due.same("2: ask(-4)", x.ask(-4), 0);
        branch(x, -4, JUMP, Integer.MIN_VALUE);
        Due.same("2: ask(-4) with an entry", x.ask(-4), Integer.MIN_VALUE);
        Due.same("6: tag of -4", x.entry(15, 0, 0), 255);
        Due.same("6: target of -4", x.entry(15, 0, 2), Integer.MIN_VALUE);
        Due.same("11: history by MIN, without sign", x.count(13), 0x20000000 & 0xFFFFFF);
    }

    private static void tagsAndSets() {
        TargetRows x = new TargetRows(3, 1, 0);
        int place = (0xABC << 4) | (2 << 2) | 3;
        branch(x, place, JUMP, 40);
        Due.same("6: tag is eight bits above the set's", x.entry(2, 0, 0), 0xBC);
        Due.same("2: the lowest two bits are left out", x.ask(place & ~3), 40);
        Due.same("2: bits above the tag are left out", x.ask(place ^ (1 << 12)), 40);
        int other = place ^ (1 << 11);
        Due.same("2: the tag's highest bit counts", x.ask(other), other + 4);
        TargetRows one = new TargetRows(1, 1, 0);
        branch(one, 0x7FF, JUMP, 40);
        Due.same("6: a single set takes no bits", one.entry(0, 0, 0), 0xFF);
        TargetRows none = new TargetRows(6, 4, 4);
        branch(none, 100, JUMP, 400);
        Due.same("2: no sets, no entry", none.ask(100), 104);
        Due.same("11: no sets, no entries", none.count(12), 0);
        Due.same("11: no sets, the history goes on", none.count(13), 100);
    }

    private static void askByNumberUsesItsRow() {
        TargetRows x = new TargetRows(5, 4, 4);
        branch(x, 64, BY_NUMBER, 2);
        Due.same("7: target below 4 keeps the history 0", x.count(13), 0);
        branch(x, 0, JUMP, 4);
        branch(x, 64, BY_NUMBER, 1000);
        Due.same("7: row by history 1", x.row(17, 1), 1000);
        Due.same("11: history", x.count(13), 8 ^ 250);
        for (int i = 0; i < 8; i++) {
            branch(x, 0, JUMP, 0);
        }
        Due.same("11: history moved out", x.count(13), 0);
        Due.same("2: row before entry", x.ask(64), 2);
        Due.same("3: row before entry", x.next(64), 2);
        x.flush();
        branch(x, 320, BY_NUMBER, 3);
        Due.same("7: the row went to another tag", x.row(16, 0), 1);
        Due.same("2: row of another tag, so the entry", x.ask(64), 1000);
        Due.same("2: the row's new owner", x.ask(320), 3);
        branch(x, 64, JUMP, 3);
        branch(x, 320, JUMP, 1);
        Due.same("2: a jump asks no row", x.ask(320), 1);
    }

    private static void nextMovesTheRing() {
        TargetRows x = new TargetRows(5, 4, 2);
        branch(x, 100, CALL, 400);
        branch(x, 200, RETURN, 104);
        Due.same("11: depth", x.count(11), 0);
        Due.same("3: next without an entry", x.next(300), 304);
        Due.same("11: such a next leaves the ring", x.count(11), 0);
        Due.same("3: next of a call", x.next(100), 400);
        Due.same("8: a call pushes", x.ring(0), 104);
        Due.same("3: next of a return", x.next(200), 104);
        Due.same("11: a return pops", x.count(11), 0);
        Due.same("11: no underflow yet", x.count(9), 0);
        Due.same("3: next of a return, ring empty", x.next(200), 104);
        Due.same("11: underflow", x.count(9), 1);
        x.next(100);
        x.next(101);
        Due.same("8: the place behind, lowest bits too", x.ring(0), 105);
        Due.same("11: full, no overflow", x.count(8), 0);
        x.next(102);
        Due.same("11: overflow", x.count(8), 1);
        Due.same("11: depth stays R", x.count(11), 2);
        Due.same("8: top after overflow", x.ring(0), 106);
        Due.same("8: lowest after overflow", x.ring(1), 105);
        Due.same("11: queue", x.count(10), 7);
    }

    private static void nextRefusesTheSeventeenth() {
        TargetRows x = new TargetRows(1, 1, 3);
        branch(x, 100, CALL, 400);
        for (int i = 0; i < 16; i++) {
            Due.same("3: next " + i, x.next(100), 400);
        }
        int[] before = counts(x);
        Due.fails("3: next on a full queue", UnsupportedOperationException.class, () -> x.next(100));
        Due.fails("3: next of another", UnsupportedOperationException.class, () -> x.next(0));
        unchanged("3: refused next", x, before);
        Due.same("2: ask on a full queue", x.ask(100), 400);
        Due.same("4: check frees a place", x.check(CALL, true, 400), 0);
        Due.same("3: next again", x.next(0), 4);
        Due.fails("3: full again", UnsupportedOperationException.class, () -> x.next(0));
    }

    private static void checkRight() {
        TargetRows x = new TargetRows(5, 4, 4);
        x.next(100);
        Due.same("4: not taken, no entry", x.check(JUMP, false, 7), 0);
        Due.same("11: no entry comes by it", x.count(12), 0);
        x.next(100);
        Due.same("4: taken to the place behind", x.check(CALL, true, 104), 0);
        Due.same("11: an entry comes by it", x.count(12), 1);
        Due.same("11: a right one moves no ring", x.count(11), 0);
        x.next(100);
        Due.same("8: told, it pushes", x.ring(0), 104);
        Due.same("4: right by another kind", x.check(BY_NUMBER, true, 104), 0);
        Due.same("6: the kind follows", x.entry(9, 0, 1), BY_NUMBER);
        Due.same("8: right, the ring stays", x.ring(0), 104);
        Due.same("11: checked", x.count(0), 3);
        Due.same("11: right", x.count(1), 3);
    }

    private static void checkCauses() {
        TargetRows x = new TargetRows(5, 4, 4);
        Due.same("4: no entry", branch(x, 100, JUMP, 400), 1);
        Due.same("4: other target", branch(x, 100, JUMP, 404), 6);
        x.next(100);
        Due.same("4: not taken", x.check(JUMP, false, 404), 5);
        Due.same("4: other kind", branch(x, 100, CALL, 500), 2);
        Due.same("4: a call to another target", branch(x, 100, CALL, 504), 6);
        Due.same("4: a return without an entry", branch(x, 8, RETURN, 90), 1);
        Due.same("4: a return elsewhere", branch(x, 8, RETURN, 94), 3);
        Due.same("4: by number without an entry", branch(x, 12, BY_NUMBER, 800), 1);
        Due.same("4: by number elsewhere", branch(x, 12, BY_NUMBER, 804), 4);
        int[] due = {9, 0, 3, 1, 1, 1, 1, 2};
        for (int what = 0; what < due.length; what++) {
            Due.same("11: count(" + what + ") after all causes", x.count(what), due[what]);
        }
    }

    private static void checkCausesInOrder() {
        TargetRows x = new TargetRows(5, 4, 4);
        branch(x, 100, JUMP, 400);
        x.next(100);
        Due.same("4: other kind before return", x.check(RETURN, false, 0), 2);
        x.next(100);
        Due.same("4: other kind before by number", x.check(BY_NUMBER, false, 0), 2);
        x.next(100);
        Due.same("4: other kind before not taken", x.check(CALL, false, 0), 2);
        branch(x, 8, RETURN, 80);
        x.next(8);
        Due.same("4: return before not taken", x.check(RETURN, false, 0), 3);
        branch(x, 12, BY_NUMBER, 90);
        x.next(12);
        Due.same("4: by number before not taken", x.check(BY_NUMBER, false, 0), 4);
        x.next(200);
        x.next(200);
        Due.same("4: an entry comes while another is told", x.check(JUMP, true, 204), 0);
        Due.same("4: the entry is that of the check", x.check(JUMP, true, 300), 6);
    }

    /** One way: the check of 200 throws out the entry by which 100 was told. */
    private static TargetRows entryGone() {
        TargetRows x = new TargetRows(1, 1, 4);
        branch(x, 100, JUMP, 400);
        x.next(200);
        x.next(100);
        Due.same("4: right with a new entry", x.check(JUMP, true, 204), 0);
        Due.same("9: told before the entry went", x.queued(0, 1), 400);
        return x;
    }

    private static void checkAfterTheEntryWent() {
        Due.same("4: gone, taken", entryGone().check(RETURN, true, 500), 1);
        Due.same("4: gone, return not taken", entryGone().check(RETURN, false, 500), 3);
        Due.same("4: gone, by number not taken", entryGone().check(BY_NUMBER, false, 500), 4);
        Due.same("4: gone, jump not taken", entryGone().check(JUMP, false, 500), 5);
        Due.same("4: gone, call not taken", entryGone().check(CALL, false, 500), 5);
        Due.same("4: gone, and yet right", entryGone().check(CALL, true, 400), 0);
    }

    private static void checkRefuses() {
        TargetRows x = new TargetRows(5, 4, 4);
        int[] kinds = {-1, 4, Integer.MIN_VALUE, Integer.MAX_VALUE};
        for (int kind : kinds) {
            Due.fails("4: kind before the empty queue", IllegalArgumentException.class,
                    () -> x.check(kind, true, 0));
        }
        Due.fails("4: empty queue", IllegalStateException.class, () -> x.check(JUMP, true, 0));
        Due.fails("4: empty queue", IllegalStateException.class, () -> x.check(BY_NUMBER, false, 0));
        x.next(100);
        int[] before = counts(x);
        for (int kind : kinds) {
            Due.fails("4: no such kind", IllegalArgumentException.class, () -> x.check(kind, true, 0));
        }
        unchanged("4: refused check", x, before);
        Due.same("4: the place is still there", x.check(JUMP, true, 104), 0);
    }

    private static void checkWrapsTheQueue() {
        TargetRows x = new TargetRows(0, 1, 4);
        for (int i = 0; i < 10; i++) {
            x.next(1000 + i);
        }
        for (int i = 10; i < 60; i++) {
            x.next(1000 + i);
            Due.same("9: oldest of a long run", x.queued(0, 0), 1000 + i - 10);
            Due.same("9: youngest of a long run", x.queued(10, 1), 1000 + i + 4);
            Due.same("4: oldest first", x.check(JUMP, true, 1000 + i - 10 + 4), 0);
        }
        Due.same("11: ten are left", x.count(10), 10);
        Due.same("11: none is lost", x.count(14), 0);
    }

    private static void missRepairsTheRing() {
        TargetRows x = new TargetRows(5, 4, 4);
        branch(x, 100, CALL, 400);
        branch(x, 200, RETURN, 1);
        branch(x, 300, JUMP, 600);
        branch(x, 100, CALL, 400);
        Due.same("8: one deep", x.ring(0), 104);
        Due.same("11: one deep", x.count(11), 1);
        int underflows = x.count(9);
        x.next(100);
        x.next(300);
        x.next(200);
        x.next(200);
        x.next(200);
        x.next(101);
        Due.same("11: told ahead", x.count(11), 1);
        Due.same("8: told ahead", x.ring(0), 105);
        Due.same("4: the call was right", x.check(CALL, true, 400), 0);
        Due.same("4: the jump was not", x.check(JUMP, false, 0), 5);
        Due.same("11: the queue is lost", x.count(10), 0);
        Due.same("11: four are lost", x.count(14), 4);
        Due.same("11: depth is back", x.count(11), 2);
        Due.same("8: top is back", x.ring(0), 104);
        Due.same("8: lowest is back", x.ring(1), 104);
        Due.same("11: the underflow told ahead stays counted", x.count(9), underflows + 1);
        Due.outOfBounds("9: nothing is queued", () -> x.queued(0, 0));
    }

    private static void missRepairsAnOverflow() {
        TargetRows x = new TargetRows(5, 4, 2);
        branch(x, 100, CALL, 400);
        branch(x, 101, CALL, 400);
        branch(x, 300, JUMP, 600);
        x.next(300);
        Due.same("8: before the overflows", x.ring(1), 104);
        x.next(102);
        x.next(103);
        Due.same("8: after the overflows", x.ring(1), 106);
        Due.same("11: overflows", x.count(8), 2);
        Due.same("4: miss", x.check(JUMP, true, 604), 6);
        Due.same("8: top is back", x.ring(0), 105);
        Due.same("8: the lost one is back", x.ring(1), 104);
        Due.same("11: overflows stay counted", x.count(8), 2);
        x.next(102);
        Due.same("4: a call's miss pushes anew", x.check(CALL, true, 404), 6);
        Due.same("8: once only", x.ring(0), 106);
        Due.same("8: below it", x.ring(1), 105);
        Due.same("11: each push overflows", x.count(8), 4);
    }

    private static void missMovesTheRing() {
        TargetRows x = new TargetRows(5, 4, 4);
        Due.same("4: a call's miss", branch(x, 100, CALL, 400), 1);
        Due.same("8: it pushes", x.ring(0), 104);
        Due.same("4: a return's miss", branch(x, 200, RETURN, 300), 1);
        Due.same("11: it pops", x.count(11), 0);
        Due.same("4: a return's miss", branch(x, 204, RETURN, 300), 1);
        Due.same("11: it underflows", x.count(9), 1);
        x.next(100);
        Due.same("4: a call not taken", x.check(CALL, false, 0), 5);
        Due.same("11: it does not push", x.count(11), 0);
        branch(x, 100, CALL, 400);
        Due.same("11: a right call pushes once", x.count(11), 1);
        x.next(200);
        Due.same("11: told, a return pops", x.count(11), 0);
        Due.same("4: a return not taken", x.check(RETURN, false, 0), 3);
        Due.same("11: it does not pop", x.count(11), 1);
        Due.same("4: a call told, a jump made", branch(x, 100, JUMP, 500), 2);
        Due.same("11: a jump leaves the ring as before", x.count(11), 1);
        Due.same("4: by number", branch(x, 100, BY_NUMBER, 700), 2);
        Due.same("11: by number too", x.count(11), 1);
    }

    private static void notTakenUpdatesNothing() {
        TargetRows x = new TargetRows(1, 2, 4);
        branch(x, 100, BY_NUMBER, 400);
        int history = x.count(13);
        x.next(100);
        Due.same("4: not taken", x.check(JUMP, false, 800), 2);
        Due.same("11: history stays", x.count(13), history);
        Due.same("6: kind stays", x.entry(0, 0, 1), BY_NUMBER);
        Due.same("6: target stays", x.entry(0, 0, 2), 400);
        x.next(500);
        x.check(BY_NUMBER, false, 800);
        Due.same("11: no new entry", x.count(12), 1);
        int filledRows = 0;
        for (int k = 0; k < 64; k++) {
            filledRows += x.row(k, 0) == TargetRows.NONE ? 0 : 1;
        }
        Due.same("7: no new row", filledRows, 1);
    }

    private static void oldestEntryGoes() {
        TargetRows x = new TargetRows(1, 3, 4);
        branch(x, 4, JUMP, 400);
        branch(x, 8, JUMP, 400);
        Due.same("6: second way", x.entry(0, 1, 0), 2);
        Due.same("6: third way still free", x.entry(0, 2, 0), TargetRows.NONE);
        branch(x, 12, JUMP, 400);
        Due.same("6: third way", x.entry(0, 2, 0), 3);
        branch(x, 4, JUMP, 400);
        x.ask(8);
        x.next(8);
        x.flush();
        x.next(8);
        x.check(JUMP, false, 0);
        branch(x, 16, JUMP, 400);
        Due.same("6: only an update is a use", x.entry(0, 1, 0), 4);
        Due.same("6: the used one stays", x.entry(0, 0, 0), 1);
        branch(x, 20, JUMP, 400);
        Due.same("6: then the next oldest coming", x.entry(0, 2, 0), 5);
        branch(x, 24, JUMP, 400);
        Due.same("6: then the oldest use", x.entry(0, 0, 0), 6);
        Due.same("11: entries stay three", x.count(12), 3);
    }

    private static void flushLosesTheQueue() {
        TargetRows x = new TargetRows(5, 4, 2);
        branch(x, 100, CALL, 400);
        branch(x, 101, CALL, 400);
        branch(x, 200, RETURN, 1);
        branch(x, 102, CALL, 400);
        x.next(100);
        x.check(CALL, true, 400);
        Due.same("8: top before", x.ring(0), 104);
        Due.same("8: lowest before", x.ring(1), 106);
        int[] before = counts(x);
        x.next(103);
        x.next(200);
        x.next(200);
        x.next(200);
        Due.same("5: flush", x.flush(), 4);
        Due.same("11: lost", x.count(14), before[14] + 4);
        Due.same("11: queue", x.count(10), 0);
        Due.same("11: depth", x.count(11), 2);
        Due.same("8: top is back", x.ring(0), 104);
        Due.same("8: lowest is back", x.ring(1), 106);
        Due.same("11: checked stays", x.count(0), before[0]);
        Due.same("11: overflow stays counted", x.count(8), before[8] + 1);
        Due.same("11: underflow stays counted", x.count(9), before[9] + 1);
        Due.same("11: history stays", x.count(13), before[13]);
        Due.fails("4: nothing to check", IllegalStateException.class, () -> x.check(JUMP, true, 0));
        Due.same("5: flush again", x.flush(), 0);
        for (int i = 0; i < 16; i++) {
            x.next(i);
        }
        Due.same("5: flush of a full queue", x.flush(), 16);
        Due.same("11: lost adds up", x.count(14), before[14] + 20);
    }

    private static void flushOfNothing() {
        TargetRows x = new TargetRows(5, 4, 2);
        Due.same("5: flush of a new one", x.flush(), 0);
        x.next(100);
        x.check(CALL, true, 400);
        x.next(100);
        x.check(CALL, true, 400);
        int[] before = counts(x);
        Due.same("5: flush of an emptied queue", x.flush(), 0);
        unchanged("5: flush of an emptied queue", x, before);
        Due.same("8: ring stays", x.ring(1), 104);
    }

    private static void entryAnswers() {
        TargetRows x = new TargetRows(2, 2, 2);
        branch(x, 108, CALL, -8);
        Due.same("6: tag", x.entry(1, 0, 0), 13);
        Due.same("6: kind", x.entry(1, 0, 1), CALL);
        Due.same("6: target", x.entry(1, 0, 2), -8);
        Due.same("6: other way", x.entry(1, 1, 0), TargetRows.NONE);
        Due.same("6: other set", x.entry(0, 0, 0), TargetRows.NONE);
        int[] bad = {-1, 2, Integer.MIN_VALUE, Integer.MAX_VALUE};
        for (int b : bad) {
            Due.outOfBounds("6: set " + b, () -> x.entry(b, 0, 0));
            Due.outOfBounds("6: way " + b, () -> x.entry(0, b, 0));
        }
        Due.outOfBounds("6: what -1", () -> x.entry(0, 0, -1));
        Due.outOfBounds("6: what 3", () -> x.entry(0, 0, 3));
        TargetRows none = new TargetRows(0, 4, 2);
        Due.outOfBounds("6: no sets at all", () -> none.entry(0, 0, 0));
    }

    private static void rowAnswers() {
        TargetRows x = new TargetRows(0, 1, 0);
        branch(x, 0xABCD04, BY_NUMBER, -4);
        Due.same("7: tag", x.row(1, 0), 0xCD);
        Due.same("7: target", x.row(1, 1), -4);
        Due.same("11: history keeps 24 bits", x.count(13), 0xFFFFFF);
        branch(x, 0x80000008, BY_NUMBER, 12);
        Due.same("7: tag of a negative place", x.row(2, 0), 0);
        Due.same("11: history moved up by 3", x.count(13), 0xFFFFFB);
        Due.same("7: last row", x.row(63, 0), TargetRows.NONE);
        int[] bad = {-1, 64, Integer.MIN_VALUE, Integer.MAX_VALUE};
        for (int b : bad) {
            Due.outOfBounds("7: row " + b, () -> x.row(b, 0));
        }
        Due.outOfBounds("7: what -1", () -> x.row(0, -1));
        Due.outOfBounds("7: what 2", () -> x.row(0, 2));
    }

    private static void rowsFoldTheHistory() {
        int[] shifts = {0, 6, 12, 18};
        for (int shift : shifts) {
            TargetRows x = new TargetRows(0, 1, 0);
            branch(x, 0, JUMP, 5 << shift << 2);
            Due.same("11: history", x.count(13), 5 << shift);
            branch(x, 3 << 2, BY_NUMBER, 77);
            Due.same("7: row by history bits from " + shift, x.row(3 ^ 5, 1), 77);
        }
        TargetRows all = new TargetRows(0, 1, 0);
        branch(all, 0, JUMP, (3 | 6 << 6 | 12 << 12 | 21 << 18) << 2);
        branch(all, 0, BY_NUMBER, 77);
        Due.same("7: row by all parts of the history", all.row(3 ^ 6 ^ 12 ^ 21, 1), 77);
    }

    private static void rowUsesTheHistoryAtTheCheck() {
        TargetRows x = new TargetRows(5, 4, 0);
        x.next(0);
        x.next(64);
        Due.same("4: right", x.check(JUMP, true, 4), 0);
        Due.same("4: by number", x.check(BY_NUMBER, true, 900), 1);
        Due.same("7: row by the history now", x.row(17, 1), 900);
        Due.same("7: not by that when told", x.row(16, 0), TargetRows.NONE);
    }

    private static void ringAnswers() {
        TargetRows x = new TargetRows(1, 1, 3);
        branch(x, 100, CALL, 400);
        branch(x, Integer.MAX_VALUE, CALL, 400);
        Due.same("8: top", x.ring(0), Integer.MIN_VALUE + 3);
        Due.same("8: below", x.ring(1), 104);
        int[] bad = {-1, 2, 3, Integer.MIN_VALUE, Integer.MAX_VALUE};
        for (int b : bad) {
            Due.outOfBounds("8: ring(" + b + ")", () -> x.ring(b));
        }
        TargetRows big = new TargetRows(0, 1, 16);
        for (int i = 0; i < 18; i++) {
            branch(big, 100 * i, CALL, 7);
        }
        for (int k = 0; k < 16; k++) {
            Due.same("8: a full ring of 16", big.ring(k), 100 * (17 - k) + 4);
        }
        Due.outOfBounds("8: below a full ring", () -> big.ring(16));
        Due.same("11: overflows of a ring of 16", big.count(8), 2);
    }

    private static void ringOfOnePlace() {
        TargetRows x = new TargetRows(5, 4, 1);
        branch(x, 100, CALL, 400);
        branch(x, 200, CALL, 400);
        Due.same("8: the newer one", x.ring(0), 204);
        Due.same("11: depth", x.count(11), 1);
        Due.same("11: overflow", x.count(8), 1);
    }

    private static void ringOfNoPlaces() {
        TargetRows x = new TargetRows(5, 4, 17);
        branch(x, 100, CALL, 400);
        branch(x, 200, RETURN, 500);
        Due.same("11: overflow", x.count(8), 1);
        Due.same("11: underflow", x.count(9), 1);
        Due.same("3: told by the entry", x.next(200), 500);
        Due.same("3: told by the entry", x.next(100), 400);
        Due.same("11: underflow by next", x.count(9), 2);
        Due.same("11: overflow by next", x.count(8), 2);
        Due.same("11: never deep", x.count(11), 0);
        Due.outOfBounds("8: nothing there", () -> x.ring(0));
        Due.same("5: flush", x.flush(), 2);
    }

    private static void queuedAnswers() {
        TargetRows x = new TargetRows(5, 4, 2);
        branch(x, 100, JUMP, 400);
        x.next(100);
        x.next(-4);
        Due.same("9: place", x.queued(0, 0), 100);
        Due.same("9: told", x.queued(0, 1), 400);
        Due.same("9: second place", x.queued(1, 0), -4);
        Due.same("9: second told", x.queued(1, 1), 0);
        int[] bad = {-1, 2, 16, Integer.MIN_VALUE, Integer.MAX_VALUE};
        for (int b : bad) {
            Due.outOfBounds("9: queued(" + b + ", 0)", () -> x.queued(b, 0));
        }
        Due.outOfBounds("9: what -1", () -> x.queued(0, -1));
        Due.outOfBounds("9: what 2", () -> x.queued(0, 2));
        x.check(JUMP, true, 400);
        Due.same("9: the oldest moves up", x.queued(0, 0), -4);
        Due.outOfBounds("9: one is left", () -> x.queued(1, 0));
    }

    private static void storageAnswers() {
        Due.same("10: least", new TargetRows(0, 4, 0).storage(), 64 * 40 + 24);
        Due.same("10: most", new TargetRows(5, 4, 16).storage(), 64 * 42 + 64 * 40 + 16 * 32 + 24);
        TargetRows x = new TargetRows(2, 3, 1);
        Due.same("10: between", x.storage(), 6 * 42 + 64 * 40 + 32 + 24);
        branch(x, 100, CALL, 400);
        Due.same("10: use does not change it", x.storage(), 6 * 42 + 64 * 40 + 32 + 24);
    }

    private static void countAnswers() {
        TargetRows x = new TargetRows(2, 3, 4);
        int[] none = {-1, 18, Integer.MIN_VALUE, Integer.MAX_VALUE};
        for (int what : none) {
            Due.same("11: count(" + what + ")", x.count(what), TargetRows.NONE);
        }
        branch(x, 100, CALL, 400);
        branch(x, 104, JUMP, 108);
        x.next(4);
        x.next(8);
        x.flush();
        x.next(12);
        int[] due = {2, 1, 1, 0, 0, 0, 0, 0, 0, 0, 1, 1, 2, (100 << 3) ^ 27, 2, 2, 3, 4};
        for (int what = 0; what < due.length; what++) {
            Due.same("11: count(" + what + ")", x.count(what), due[what]);
        }
    }
}
