/** The boundary cases of the queue, of what is checked and of flush (promises 3 to 5), each by itself. */
public final class CheckEdgeTest extends Calls {
    private static final int[] NO_KINDS = {-1, 4, MIN, MAX};

    public static void main(String[] args) {
        sixteenAtMost();
        sixteenAgain();
        queueWraps();
        noSuchKind();
        emptyQueue();
        firstExceptionTold();
        rightWhateverItsKind();
        rightNotTaken();
        cause1NoEntry();
        cause2OtherKind();
        cause3Return();
        cause4ByNumber();
        cause5NotTaken();
        cause6OtherTarget();
        entryAsItIsWhenChecked();
        entryGoneWhenChecked();
        entryGoneIsCounted();
        missLosesTheRest();
        missGivesBackAnOverflow();
        missGivesBackAnUnderflow();
        missGivesBackEachDepth();
        missedCall();
        missedReturn();
        missedOthers();
        takenUpdates();
        rowFirstThenHistory();
        notTakenUpdatesNothing();
        flushOfNone();
        flushOfOne();
        flushOfSixteen();
        flushBeforeTheOldest();
        Due.end("CheckEdgeTest");
    }

    /** Entries for a call (100), a return (200), a jump (300) and one by number (308). */
    private static TargetRows known(int returns) {
        TargetRows x = new TargetRows(5, 4, returns);
        branch(x, 200, RETURN, 500);
        branch(x, 100, CALL, 400);
        branch(x, 300, JUMP, 600);
        branch(x, 308, BY_NUMBER, 700);
        return x;
    }

    private static TargetRows fullQueue() {
        TargetRows x = known(3);
        tell(x, 100, 16);
        return x;
    }

    private static void refused(TargetRows x, int place) {
        Due.fails("3: when there are 16", UnsupportedOperationException.class, () -> x.next(place));
    }

    private static void sixteenAtMost() {
        TargetRows x = known(3);
        for (int i = 0; i < 16; i++) {
            Due.same("3: next when there are " + i, x.next(100), 400);
            Due.same("11: in the queue", x.count(10), i + 1);
        }
        refused(x, 100);
        refused(x, 777);
        changesNothing("3: a refused call", CheckEdgeTest::fullQueue, y -> refused(y, 100));
        changesNothing("3: a refused return", CheckEdgeTest::fullQueue, y -> refused(y, 200));
    }

    private static void sixteenAgain() {
        TargetRows right = fullQueue();
        Due.same("4: right", right.check(CALL, true, 400), 0);
        Due.same("3: one is checked, one more", right.next(300), 600);
        refused(right, 300);
        TargetRows miss = fullQueue();
        Due.same("4: miss", miss.check(CALL, true, 404), 6);
        tell(miss, 300, 16);
        refused(miss, 300);
        TargetRows flushed = fullQueue();
        Due.same("5: flush", flushed.flush(), 16);
        tell(flushed, 300, 16);
        refused(flushed, 300);
    }

    private static void queueWraps() {
        TargetRows x = new TargetRows(0, 1, 3);
        for (int i = 0; i < 16; i++) {
            x.next(100 * i);
        }
        for (int i = 16; i < 50; i++) {
            Due.same("4: the oldest is checked", x.check(JUMP, true, 100 * (i - 16) + 4), 0);
            x.next(100 * i);
            Due.same("9: the next oldest", x.queued(0, 0), 100 * (i - 15));
            Due.same("9: the youngest", x.queued(15, 0), 100 * i);
        }
        Due.same("11: none is lost", x.count(14), 0);
    }

    private static void noSuchKind() {
        for (int kind : NO_KINDS) {
            changesNothing("4: no such kind " + kind, CheckEdgeTest::fullQueue,
                    x -> Due.fails("4: no such kind " + kind, IllegalArgumentException.class,
                            () -> x.check(kind, true, 400)));
        }
        for (int kind = JUMP; kind <= BY_NUMBER; kind++) {
            Due.same("4: such a kind", fullQueue().check(kind, true, 400), 0);
        }
    }

    private static void refusedAsEmpty(String label, TargetRows x) {
        for (int kind = JUMP; kind <= BY_NUMBER; kind++) {
            int one = kind;
            Due.fails(label, IllegalStateException.class, () -> x.check(one, true, 0));
            Due.fails(label, IllegalStateException.class, () -> x.check(one, false, 0));
        }
    }

    private static void emptyQueue() {
        TargetRows x = new TargetRows(5, 4, 3);
        refusedAsEmpty("4: empty, a new object", x);
        branch(x, 100, JUMP, 104);
        refusedAsEmpty("4: empty, all is checked", x);
        tell(x, 100, 2);
        x.check(JUMP, true, 400);
        refusedAsEmpty("4: empty, lost by a miss", x);
        tell(x, 100, 2);
        x.flush();
        refusedAsEmpty("4: empty, flushed", x);
        changesNothing("4: refused as empty", () -> known(3), y -> refusedAsEmpty("4: empty", y));
    }

    private static void firstExceptionTold() {
        TargetRows x = new TargetRows(5, 4, 3);
        for (int kind : NO_KINDS) {
            Due.fails("4: no such kind and an empty queue", IllegalArgumentException.class,
                    () -> x.check(kind, true, 0));
            Due.fails("4: no such kind and an empty queue", IllegalArgumentException.class,
                    () -> x.check(kind, false, 0));
        }
    }

    private static void rightWhateverItsKind() {
        for (int kind = JUMP; kind <= BY_NUMBER; kind++) {
            TargetRows x = known(3);
            tell(x, 100, 2);
            Due.same("4: what was told is where it went", x.check(kind, true, 400), 0);
            ringIs("8: right, the ring stays", x, 104, 104, 104);
            Due.same("11: right, the rest of the queue stays", x.count(10), 1);
            Due.same("11: right, nothing is lost", x.count(14), 0);
        }
    }

    private static void rightNotTaken() {
        TargetRows x = known(3);
        x.next(777);
        Due.same("4: not taken it went to the place behind it", x.check(RETURN, false, 400), 0);
        ringIs("8: right, the ring stays", x, 104);
        branch(x, 300, JUMP, 304);
        Due.same("4: told the place behind by its entry", notTaken(x, 300, JUMP), 0);
        Due.same("4: whatever the kind", notTaken(x, 300, BY_NUMBER), 0);
    }

    private static void cause1NoEntry() {
        for (int kind = JUMP; kind <= BY_NUMBER; kind++) {
            TargetRows x = new TargetRows(5, 4, 3);
            Due.same("4: cause 1, no entry and taken", branch(x, 777, kind, 400), 1);
            Due.same("11: cause 1", x.count(2), 1);
            Due.same("4: no entry and not taken is none", notTaken(x, 1000, kind), 0);
            Due.same("11: still one", x.count(2), 1);
        }
    }

    private static void cause2OtherKind() {
        int[] places = {300, 100, 200, 308};
        for (int held = JUMP; held <= BY_NUMBER; held++) {
            for (int kind = JUMP; kind <= BY_NUMBER; kind++) {
                if (kind != held) {
                    TargetRows taken = known(3);
                    Due.same("4: cause 2, taken", branch(taken, places[held], kind, 4000), 2);
                    Due.same("11: cause 2", taken.count(3), 1);
                    Due.same("4: cause 2, not taken", notTaken(known(3), places[held], kind), 2);
                }
            }
        }
    }

    private static void cause3Return() {
        TargetRows x = known(3);
        Due.same("4: cause 3, another target", branch(x, 200, RETURN, 4000), 3);
        Due.same("4: cause 3, not taken", notTaken(x, 200, RETURN), 3);
        Due.same("11: cause 3", x.count(4), 2);
    }

    private static void cause4ByNumber() {
        TargetRows x = known(3);
        Due.same("4: cause 4, another target", branch(x, 308, BY_NUMBER, 4000), 4);
        Due.same("4: cause 4, not taken", notTaken(x, 308, BY_NUMBER), 4);
        Due.same("11: cause 4", x.count(5), 2);
    }

    private static void cause5NotTaken() {
        TargetRows x = known(3);
        Due.same("4: cause 5, a jump", notTaken(x, 300, JUMP), 5);
        Due.same("4: cause 5, a call", notTaken(x, 100, CALL), 5);
        x.next(300);
        Due.same("4: cause 5, though the target is the one told", x.check(JUMP, false, 600), 5);
        Due.same("11: cause 5", x.count(6), 3);
    }

    private static void cause6OtherTarget() {
        TargetRows x = known(3);
        Due.same("4: cause 6, a jump", branch(x, 300, JUMP, 604), 6);
        Due.same("4: cause 6, a call", branch(x, 100, CALL, 404), 6);
        Due.same("4: cause 6, taken to the place behind", branch(x, 300, JUMP, 304), 6);
        Due.same("11: cause 6", x.count(7), 3);
    }

    /** The check of the first of two tellings makes the entry that the second had not. */
    private static TargetRows entryCame(int kind) {
        TargetRows x = new TargetRows(5, 4, 3);
        tell(x, 100, 2);
        Due.same("4: right, and an entry comes", x.check(kind, true, 104), 0);
        return x;
    }

    private static void entryAsItIsWhenChecked() {
        Due.same("4: its entry came since, a jump", entryCame(JUMP).check(JUMP, true, 400), 6);
        Due.same("4: its entry came since, a call", entryCame(CALL).check(CALL, true, 400), 6);
        Due.same("4: its entry came since, a return", entryCame(RETURN).check(RETURN, true, 400), 3);
        Due.same("4: its entry came since, by number", entryCame(BY_NUMBER).check(BY_NUMBER, true, 400), 4);
        Due.same("4: its entry came since, another kind", entryCame(JUMP).check(CALL, true, 400), 2);
        Due.same("4: its entry came since, not taken", entryCame(JUMP).check(CALL, false, 400), 0);
        TargetRows x = known(3);
        tell(x, 300, 2);
        Due.same("4: right by another kind", x.check(CALL, true, 600), 0);
        Due.same("4: its entry's kind is a new one", x.check(JUMP, true, 604), 2);
    }

    /** One way: the check of 200 throws out the entry of a kind by which 100 was told. */
    private static TargetRows entryWent(int toldKind) {
        TargetRows x = new TargetRows(1, 1, 4);
        branch(x, 100, toldKind, 400);
        x.next(200);
        Due.same("3: told by its entry", x.next(100), 400);
        Due.same("4: right, and an entry goes", x.check(JUMP, true, 204), 0);
        return x;
    }

    private static void entryGoneWhenChecked() {
        for (int told = JUMP; told <= BY_NUMBER; told++) {
            for (int kind = JUMP; kind <= BY_NUMBER; kind++) {
                Due.same("4: its entry went, taken", entryWent(told).check(kind, true, 4000), 1);
                Due.same("4: its entry went, yet right", entryWent(told).check(kind, true, 400), 0);
            }
            Due.same("4: its entry went, jump not taken", entryWent(told).check(JUMP, false, 0), 5);
            Due.same("4: its entry went, call not taken", entryWent(told).check(CALL, false, 0), 5);
            Due.same("4: its entry went, return not taken", entryWent(told).check(RETURN, false, 0), 3);
            Due.same("4: its entry went, by number not taken", entryWent(told).check(BY_NUMBER, false, 0), 4);
        }
    }

    private static void entryGoneIsCounted() {
        TargetRows x = entryWent(CALL);
        ringIs("8: the call that was told pushed", x, 104, 104);
        Due.same("4: its entry went, return not taken", x.check(RETURN, false, 0), 3);
        Due.same("11: by its cause", x.count(4), 1);
        ringIs("8: as before it was told, and nothing popped", x, 104);
        entryIs("6: not taken, the other's entry stays", x, 0, 0, 50, JUMP, 204);
    }

    private static void missLosesTheRest() {
        for (int size = 1; size <= 16; size++) {
            TargetRows x = known(3);
            tell(x, 300, size);
            Due.same("4: miss, the queue of " + size, x.check(JUMP, true, 604), 6);
            Due.same("11: all else is lost, of " + size, x.count(14), size - 1);
            Due.same("11: the queue is empty, of " + size, x.count(10), 0);
            Due.same("11: one is checked", x.count(0), 5);
        }
    }

    private static void missGivesBackAnOverflow() {
        TargetRows x = known(2);
        branch(x, 1000, CALL, 400);
        ringIs("8: full", x, 1004, 104);
        x.next(300);
        tell(x, 100, 5);
        ringIs("8: told ahead", x, 104, 104);
        Due.same("4: miss", x.check(JUMP, true, 604), 6);
        ringIs("8: the ring as it was before", x, 1004, 104);
        Due.same("11: what overflowed stays counted", x.count(8), 5);
    }

    private static void missGivesBackAnUnderflow() {
        TargetRows x = known(2);
        int underflows = x.count(9);
        x.next(300);
        tell(x, 200, 3);
        x.next(100);
        ringIs("8: told ahead", x, 104);
        x.next(200);
        Due.same("4: miss", x.check(JUMP, true, 604), 6);
        ringIs("8: the ring as it was before", x, 104);
        Due.same("11: what underflowed stays counted", x.count(9), underflows + 2);
    }

    /** Each place of the queue has another ring before it; the k-th of them misses. */
    private static void missGivesBackEachDepth() {
        for (int k = 0; k < 16; k++) {
            TargetRows x = new TargetRows(1, 1, 16);
            branch(x, 100, CALL, 400);
            branch(x, 300, RETURN, 0);
            branch(x, 100, CALL, 400);
            for (int i = 0; i < 16; i++) {
                x.next(100 + 1024 * i);
            }
            for (int i = 0; i < k; i++) {
                Due.same("4: right", x.check(CALL, true, 400), 0);
            }
            Due.same("4: miss", x.check(CALL, false, 0), 5);
            Due.same("11: the depth before it", x.count(11), 1 + k);
            for (int i = 0; i < k; i++) {
                Due.same("8: the ring before it", x.ring(i), 104 + 1024 * (k - 1 - i));
            }
            Due.same("8: the lowest of it", x.ring(k), 104);
        }
    }

    private static void missedCall() {
        TargetRows x = known(2);
        Due.same("4: a call told as one", branch(x, 100, CALL, 404), 6);
        ringIs("8: taken it pushes, once", x, 104, 104);
        Due.same("4: a call not told as one", branch(x, 300, CALL, 404), 2);
        ringIs("8: it pushes, the lowest is lost", x, 304, 104);
        Due.same("11: an overflow", x.count(8), 1);
        Due.same("4: a call not taken", notTaken(x, 300, CALL), 5);
        ringIs("8: not taken it does not push", x, 304, 104);
    }

    private static void missedReturn() {
        TargetRows x = known(2);
        int underflows = x.count(9);
        Due.same("4: a return not taken", notTaken(x, 200, RETURN), 3);
        ringIs("8: not taken it does not pop", x, 104);
        Due.same("4: a return told as one", branch(x, 200, RETURN, 0), 3);
        ringIs("8: taken it pops, once", x);
        Due.same("11: no underflow", x.count(9), underflows);
        Due.same("4: a return not told as one", branch(x, 300, RETURN, 0), 2);
        ringIs("8: nothing there to pop", x);
        Due.same("11: an underflow", x.count(9), underflows + 1);
    }

    private static void missedOthers() {
        TargetRows x = known(2);
        Due.same("4: a call told, a jump made", branch(x, 100, JUMP, 404), 2);
        ringIs("8: a jump pushes nothing", x, 104);
        Due.same("4: a return told, by number made", branch(x, 200, BY_NUMBER, 404), 2);
        ringIs("8: by number pops nothing", x, 104);
    }

    private static void takenUpdates() {
        TargetRows x = new TargetRows(1, 2, 2);
        branch(x, 4, JUMP, 8);
        entryIs("6: right, a new entry", x, 0, 0, 1, JUMP, 8);
        Due.same("4: right by another kind", branch(x, 4, CALL, 8), 0);
        entryIs("6: right, the entry gets the kind", x, 0, 0, 1, CALL, 8);
        Due.same("4: miss", branch(x, 4, CALL, 80), 6);
        entryIs("6: a miss, the entry gets the target", x, 0, 0, 1, CALL, 80);
        Due.same("4: miss", branch(x, 8, BY_NUMBER, 80), 1);
        entryIs("6: a miss, a new entry", x, 0, 1, 2, BY_NUMBER, 80);
        TargetRows right = new TargetRows(0, 1, 2);
        Due.same("4: right", branch(right, 4, BY_NUMBER, 8), 0);
        Due.same("7: right, its row by the history before", right.row(1, 1), 8);
        Due.same("11: right, the history goes on", right.count(13), 2);
    }

    /** History 0 when told, 1 when checked, another one behind it: only the second gives the row. */
    private static void rowFirstThenHistory() {
        rowIsByTheHistoryAtTheCheck(68, 0, 25);
        rowIsByTheHistoryAtTheCheck(900, 1, 233);
    }

    private static void rowIsByTheHistoryAtTheCheck(int target, int due, int historyAfter) {
        TargetRows x = new TargetRows(5, 4, 2);
        x.next(0);
        x.next(64);
        Due.same("4: right, the history goes to 1", x.check(JUMP, true, 4), 0);
        Due.same("4: by number", x.check(BY_NUMBER, true, target), due);
        for (int k = 0; k < 64; k++) {
            Due.same("7: row(" + k + ", 0)", x.row(k, 0), k == (16 ^ 1) ? 0 : NONE);
            Due.same("7: row(" + k + ", 1)", x.row(k, 1), k == (16 ^ 1) ? target : 0);
        }
        Due.same("11: then the history goes on", x.count(13), historyAfter);
    }

    private static TargetRows notTakenAs(int kind) {
        TargetRows x = known(2);
        notTaken(x, 777, kind);
        return x;
    }

    private static void notTakenUpdatesNothing() {
        for (int kind = JUMP; kind <= BY_NUMBER; kind++) {
            TargetRows x = notTakenAs(kind);
            Due.same("11: not taken, no entry comes", x.count(12), 4);
            sameInside("4: not taken, whatever the kind", x, notTakenAs(JUMP));
            TargetRows miss = known(2);
            notTaken(miss, 308, kind);
            entryIs("6: not taken, the entry stays", miss, 13, 0, 4, BY_NUMBER, 700);
            Due.same("11: not taken, the history stays", miss.count(13), known(2).count(13));
            Due.same("11: not taken, the entries stay", miss.count(12), 4);
        }
    }

    private static TargetRows emptiedQueue() {
        TargetRows x = known(3);
        tell(x, 100, 2);
        x.check(CALL, true, 400);
        x.check(CALL, true, 400);
        return x;
    }

    private static void flushOfNone() {
        Due.same("5: how many there were, a new object", new TargetRows(5, 4, 3).flush(), 0);
        changesNothing("5: flush, nothing told", () -> known(3), x -> Due.same("5: none", x.flush(), 0));
        changesNothing("5: flush, all checked", CheckEdgeTest::emptiedQueue,
                x -> Due.same("5: none", x.flush(), 0));
        ringIs("8: the ring that stays", emptiedQueue(), 104, 104, 104);
    }

    private static void flushOfOne() {
        TargetRows x = known(3);
        x.next(200);
        ringIs("8: popped", x);
        Due.same("5: how many there were, one", x.flush(), 1);
        ringIs("8: as it was before", x, 104);
        Due.same("11: lost", x.count(14), 1);
        Due.same("5: and none the next time", x.flush(), 0);
        Due.same("11: lost no more", x.count(14), 1);
        ringIs("8: still as it was before", x, 104);
    }

    private static void flushOfSixteen() {
        TargetRows x = fullQueue();
        int[] before = counts(x);
        ringIs("8: overflowed", x, 104, 104, 104);
        Due.same("5: how many there were, all", x.flush(), 16);
        ringIs("8: as it was before", x, 104);
        Due.same("11: lost", x.count(14), 16);
        Due.same("11: in the queue", x.count(10), 0);
        for (int what = 0; what <= 9; what++) {
            Due.same("11: flush leaves count(" + what + ")", x.count(what), before[what]);
        }
        Due.same("11: flush leaves the entries", x.count(12), before[12]);
        Due.same("11: flush leaves the history", x.count(13), before[13]);
    }

    private static void flushBeforeTheOldest() {
        TargetRows x = known(3);
        branch(x, 1000, CALL, 400);
        x.next(200);
        tell(x, 100, 3);
        Due.same("4: the first is right", x.check(RETURN, true, 1004), 0);
        Due.same("5: the rest", x.flush(), 3);
        ringIs("8: before the oldest that is left", x, 104);
        Due.same("11: lost", x.count(14), 3);
    }
}
