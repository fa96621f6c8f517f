/** The boundary cases that the terms name of table, history, ring and what is told (promises 2 and 3). */
public final class TermsEdgeTest extends Calls {
    public static void main(String[] args) {
        noSets();
        setTakesTheLowestBits();
        tagTakesTheNextEightBits();
        placesBelow0();
        lowestWayWithoutAnEntry();
        longestAgoByComing();
        longestAgoByUse();
        onlyAnUpdateIsAUse();
        onlyWay();
        historyAtFirst();
        historyKeeps24Bits();
        historyBitsThatMeet();
        historyOfTakenOnes();
        rowTakesTheLowestSixBits();
        rowTagTakesEightBits();
        rowTagNoneAtFirst();
        ringOfNoPlaces();
        ringOverflows();
        ringUnderflows();
        toldOfAReturn();
        toldByNumber();
        toldWithoutAnEntry();
        nextPushesAndPops();
        askChangesNothing();
        Due.end("TermsEdgeTest");
    }

    private static void noSets() {
        TargetRows x = new TargetRows(0, 4, 4);
        for (int kind = JUMP; kind <= BY_NUMBER; kind++) {
            Due.same("2: S 0, no entry comes", branch(x, 100, kind, 400), 1);
            Due.same("2: S 0, told as without an entry", x.ask(100), 104);
        }
        Due.same("11: S 0, no entries", x.count(12), 0);
        Due.same("4: S 0, not taken is right", notTaken(x, 100, JUMP), 0);
    }

    private static void setTakesTheLowestBits() {
        for (int size = 1; size <= 5; size++) {
            int s = 1 << (size - 1);
            TargetRows x = new TargetRows(size, 1, 0);
            branch(x, (s - 1) * 4 + 3, JUMP, 40);
            entryIs("2: the last set of " + s, x, s - 1, 0, 0, JUMP, 40);
            branch(x, s * 4, CALL, 44);
            entryIs("2: the first set of " + s + ", one place on", x, 0, 0, 1, CALL, 44);
        }
    }

    private static void tagTakesTheNextEightBits() {
        for (int size = 1; size <= 5; size++) {
            int step = 4 << (size - 1);
            TargetRows x = new TargetRows(size, 1, 0);
            branch(x, 255 * step, JUMP, 40);
            Due.same("2: the largest tag", x.entry(0, 0, 0), 255);
            Due.same("2: without the lowest two bits", x.ask(255 * step + 3), 40);
            Due.same("2: a bit above the tag does not count", x.ask(511 * step), 40);
            Due.same("2: the tag's highest bit counts", x.ask(127 * step), 127 * step + 4);
            Due.same("2: the tag's lowest bit counts", x.ask(254 * step), 254 * step + 4);
            branch(x, 256 * step, JUMP, 44);
            Due.same("2: the tag wraps to 0", x.entry(0, 0, 0), 0);
            Due.same("2: as that of place 0", x.ask(0), 44);
        }
    }

    private static void placesBelow0() {
        TargetRows x = new TargetRows(5, 2, 0);
        branch(x, -1, JUMP, 40);
        entryIs("2: -1 moved down without sign", x, 15, 0, 255, JUMP, 40);
        Due.same("2: -4 has the set and tag of -1", x.ask(-4), 40);
        branch(x, MIN, JUMP, MAX);
        entryIs("2: MIN moved down without sign", x, 0, 0, 0, JUMP, MAX);
        branch(x, MAX, JUMP, MIN);
        entryIs("2: MAX has the set and tag of -1", x, 15, 0, 255, JUMP, MIN);
        Due.same("2: no other entry", x.count(12), 2);
    }

    private static void lowestWayWithoutAnEntry() {
        TargetRows x = new TargetRows(2, 4, 0);
        for (int way = 0; way < 4; way++) {
            int tag = 9 - way;
            branch(x, tag * 8, JUMP, 40 + way);
            entryIs("6: the lowest way without one", x, 0, way, tag, JUMP, 40 + way);
            Due.same("11: one entry more", x.count(12), way + 1);
            branch(x, 9 * 8, JUMP, 40);
        }
        Due.same("6: the other set has none", x.entry(1, 0, 0), NONE);
    }

    private static void longestAgoByComing() {
        TargetRows x = new TargetRows(1, 4, 0);
        for (int tag = 1; tag <= 11; tag++) {
            branch(x, tag * 4, JUMP, 40);
            Due.same("6: where the coming is longest ago", x.entry(0, (tag - 1) % 4, 0), tag);
        }
        Due.same("11: entries stay W", x.count(12), 4);
    }

    private static void longestAgoByUse() {
        TargetRows x = new TargetRows(1, 3, 0);
        branch(x, 4, JUMP, 40);
        branch(x, 8, JUMP, 40);
        branch(x, 12, JUMP, 40);
        branch(x, 8, JUMP, 40);
        branch(x, 4, JUMP, 40);
        int[] wayDue = {2, 1, 0, 2};
        for (int i = 0; i < wayDue.length; i++) {
            branch(x, 16 + 4 * i, JUMP, 40);
            Due.same("6: where the last use is longest ago", x.entry(0, wayDue[i], 0), 4 + i);
        }
    }

    /** The way that a third branch gets, of two; 1 when the change used the entry in way 0. */
    private static int wayAfter(Change change) {
        TargetRows x = new TargetRows(1, 2, 2);
        branch(x, 4, JUMP, 8);
        branch(x, 8, JUMP, 40);
        change.on(x);
        branch(x, 12, JUMP, 40);
        return x.entry(0, 0, 0) == 3 ? 0 : 1;
    }

    private static void onlyAnUpdateIsAUse() {
        Due.same("6: ask is no use", wayAfter(x -> x.ask(4)), 0);
        Due.same("6: next and flush are no use", wayAfter(TermsEdgeTest::tellAndFlush), 0);
        Due.same("6: right, not taken, is no use", wayAfter(x -> notTaken(x, 4, JUMP)), 0);
        Due.same("6: right and taken is a use", wayAfter(x -> branch(x, 4, JUMP, 8)), 1);
        Due.same("6: missed and taken is a use", wayAfter(x -> branch(x, 4, JUMP, 80)), 1);
        Due.same("6: taken by another kind is a use", wayAfter(x -> branch(x, 4, RETURN, 80)), 1);
        Due.same("6: missed, not taken, is no use", wayAfter(TermsEdgeTest::missNotTaken), 1);
    }

    private static void tellAndFlush(TargetRows x) {
        x.next(4);
        x.flush();
    }

    /** Way 0 is used; then way 1 is missed without being taken and stays the older one. */
    private static void missNotTaken(TargetRows x) {
        branch(x, 4, JUMP, 8);
        Due.same("4: missed, not taken", notTaken(x, 8, JUMP), 5);
    }

    private static void onlyWay() {
        TargetRows x = new TargetRows(1, 1, 0);
        for (int tag = 0; tag < 3; tag++) {
            branch(x, tag * 4, tag, 40 + tag);
            entryIs("6: the only way gets each new entry", x, 0, 0, tag, tag, 40 + tag);
            Due.same("11: one entry", x.count(12), 1);
        }
    }

    private static void historyAtFirst() {
        TargetRows x = new TargetRows(1, 1, 0);
        Due.same("11: the history is 0 at first", x.count(13), 0);
        branch(x, 4, BY_NUMBER, 4);
        Due.same("7: the row of the history 0", x.row(1, 1), 4);
        Due.same("11: then it goes on", x.count(13), 1);
    }

    private static void historyKeeps24Bits() {
        historyIs(3, 0);
        historyIs(4, 1);
        historyIs(1 << 25, 0x800000);
        historyIs(1 << 26, 0);
        historyIs(MIN, 0);
        historyIs(MAX, 0xFFFFFF);
        historyIs(-1, 0xFFFFFF);
        historyIs(-5, 0xFFFFFE);
        TargetRows x = new TargetRows(1, 1, 0);
        branch(x, 4, JUMP, 4);
        int[] due = {8, 1 << 6, 1 << 9, 1 << 12, 1 << 15, 1 << 18, 1 << 21, 0};
        for (int history : due) {
            branch(x, 4, JUMP, 0);
            Due.same("11: moved up by 3, of that 24 bits", x.count(13), history);
        }
    }

    private static void historyIs(int target, int due) {
        TargetRows x = new TargetRows(1, 1, 0);
        branch(x, 4, JUMP, target);
        Due.same("11: the history by " + target, x.count(13), due);
    }

    private static void historyBitsThatMeet() {
        TargetRows x = new TargetRows(1, 1, 0);
        branch(x, 4, JUMP, -1);
        branch(x, 4, JUMP, -1);
        Due.same("11: the history exclusive or the target", x.count(13), 7);
        branch(x, 4, JUMP, 7 << 5);
        Due.same("11: alike they leave 0", x.count(13), 0);
    }

    private static void historyOfTakenOnes() {
        TargetRows x = new TargetRows(1, 1, 0);
        branch(x, 4, JUMP, 4);
        Due.same("4: missed, not taken", notTaken(x, 4, JUMP), 5);
        Due.same("11: a miss not taken leaves the history", x.count(13), 1);
        Due.same("4: right, not taken", notTaken(x, 8, JUMP), 0);
        Due.same("11: right and not taken leaves it too", x.count(13), 1);
        Due.same("4: right and taken", branch(x, 4, JUMP, 4), 0);
        Due.same("11: right and taken moves it", x.count(13), 9);
    }

    private static void rowTakesTheLowestSixBits() {
        int[] shifts = {0, 6, 12, 18};
        for (int shift : shifts) {
            TargetRows x = new TargetRows(0, 1, 0);
            branch(x, 0, JUMP, 63 << shift << 2);
            branch(x, 5 << 2, BY_NUMBER, 77);
            Due.same("7: all six bits of the history from bit " + shift, x.row(63 ^ 5, 1), 77);
        }
        rowIs(0xFFFFFF, 5);
        rowIs(0xFFF, 5);
        rowIs(0xFFF << 6, 5);
        rowIs(0xFFF << 12, 5);
        rowIs(0x3FFFF, 63 ^ 5);
        TargetRows x = new TargetRows(0, 1, 0);
        branch(x, -1, BY_NUMBER, 2);
        Due.same("7: the row of -1", x.row(63, 1), 2);
        branch(x, MIN, BY_NUMBER, 3);
        Due.same("7: the row of MIN", x.row(0, 1), 3);
    }

    private static void rowIs(int history, int due) {
        TargetRows x = new TargetRows(0, 1, 0);
        branch(x, 0, JUMP, history << 2);
        branch(x, 5 << 2, BY_NUMBER, 77);
        Due.same("7: all exclusive or, by the history " + history, x.row(due, 1), 77);
    }

    private static void rowTagTakesEightBits() {
        int[][] all = {{0xFF, 0}, {0x100, 1}, {0xFFFF, 255}, {0x10000, 0}, {-1, 255}, {MIN, 0}, {MAX, 255}};
        for (int[] one : all) {
            TargetRows x = new TargetRows(0, 1, 0);
            branch(x, one[0], BY_NUMBER, 2);
            Due.same("7: the tag of " + one[0], x.row((one[0] >>> 2) & 63, 0), one[1]);
        }
    }

    private static void rowTagNoneAtFirst() {
        TargetRows x = new TargetRows(5, 4, 0);
        branch(x, 0, BY_NUMBER, 4);
        Due.same("7: the row of the history 1 has no tag", x.row(1, 0), NONE);
        Due.same("2: a tag of 0 is not that of a row without", x.ask(0), 4);
        Due.same("3: a tag of 0 is not that of a row without", x.next(0), 4);
    }

    private static void ringOfNoPlaces() {
        TargetRows x = new TargetRows(5, 4, 0);
        branch(x, 100, CALL, 400);
        ringIs("8: R 0, nothing comes on top", x);
        Due.same("11: R 0, a push overflows", x.count(8), 1);
        branch(x, 200, RETURN, 500);
        Due.same("11: R 0, a pop underflows", x.count(9), 1);
        Due.same("3: R 0, a call pushes", x.next(100), 400);
        Due.same("11: R 0, it overflows", x.count(8), 2);
        Due.same("3: R 0, a return's own target", x.next(200), 500);
        Due.same("11: R 0, it underflows", x.count(9), 2);
        Due.same("5: R 0, flush", x.flush(), 2);
        ringIs("8: R 0, still nothing", x);
    }

    private static void ringOverflows() {
        int[] sizes = {1, 2, 3, 16};
        for (int r : sizes) {
            TargetRows x = new TargetRows(0, 1, r);
            for (int i = 0; i < r; i++) {
                branch(x, 100 * i, CALL, 7);
            }
            Due.same("11: R deep is no overflow, R " + r, x.count(8), 0);
            Due.same("8: the lowest of R " + r, x.ring(r - 1), 4);
            for (int i = r; i < 2 * r + 1; i++) {
                branch(x, 100 * i, CALL, 7);
                Due.same("11: overflows, R " + r, x.count(8), i - r + 1);
                Due.same("11: it stays R deep, R " + r, x.count(11), r);
                Due.same("8: the new one is on top, R " + r, x.ring(0), 100 * i + 4);
                Due.same("8: the lowest one is lost, R " + r, x.ring(r - 1), 100 * (i - r + 1) + 4);
            }
        }
    }

    private static void ringUnderflows() {
        TargetRows x = new TargetRows(0, 1, 2);
        branch(x, 100, CALL, 7);
        branch(x, 200, RETURN, 7);
        Due.same("11: the last one popped is no underflow", x.count(9), 0);
        ringIs("8: 0 deep", x);
        branch(x, 200, RETURN, 7);
        branch(x, 200, RETURN, 7);
        Due.same("11: nothing there, twice", x.count(9), 2);
        branch(x, 300, CALL, 7);
        ringIs("8: it stayed 0 deep, so this is the only one", x, 304);
    }

    private static void toldOfAReturn() {
        TargetRows x = new TargetRows(5, 4, 2);
        branch(x, 200, RETURN, 500);
        Due.same("2: a return without a top: its target", x.ask(200), 500);
        branch(x, 100, CALL, 400);
        Due.same("2: the top, if there is one", x.ask(200), 104);
        branch(x, -4, CALL, 400);
        Due.same("2: a top of 0 is one", x.ask(200), 0);
        Due.same("3: a top of 0 is one", x.next(200), 0);
        Due.same("3: then the one below", x.next(200), 104);
        Due.same("3: then its target", x.next(200), 500);
    }

    /** Row 16 gets 2 by the history 0, the entry gets 1000 by another history, which then goes. */
    private static TargetRows rowUnlikeItsEntry() {
        TargetRows x = new TargetRows(5, 4, 2);
        branch(x, 64, BY_NUMBER, 2);
        branch(x, 0, JUMP, 4);
        branch(x, 64, BY_NUMBER, 1000);
        for (int i = 0; i < 8; i++) {
            branch(x, 0, JUMP, 0);
        }
        return x;
    }

    private static void toldByNumber() {
        TargetRows x = rowUnlikeItsEntry();
        Due.same("2: by number, its row has the tag", x.ask(64), 2);
        Due.same("3: by number, its row has the tag", x.next(64), 2);
        x.flush();
        branch(x, 64 + 256, BY_NUMBER, 3);
        Due.same("7: the row got another tag", x.row(16, 0), 1);
        Due.same("2: by number, its row has another tag", x.ask(64), 1000);
        Due.same("3: by number, its row has another tag", x.next(64), 1000);
    }

    private static void toldWithoutAnEntry() {
        TargetRows x = new TargetRows(5, 4, 2);
        int[][] all = {{0, 4}, {-4, 0}, {-1, 3}, {MIN, MIN + 4}, {MAX - 4, MAX}, {MAX - 3, MIN}, {MAX, MIN + 3}};
        for (int[] one : all) {
            Due.same("2: without an entry p + 4: " + one[0], x.ask(one[0]), one[1]);
            Due.same("3: without an entry p + 4: " + one[0], x.next(one[0]), one[1]);
            Due.same("4: and behind it when not taken", x.check(JUMP, false, 77), 0);
        }
        branch(x, MAX, CALL, 400);
        ringIs("8: the place behind a call wraps", x, MIN + 3);
    }

    private static void nextPushesAndPops() {
        TargetRows x = new TargetRows(5, 4, 2);
        branch(x, 200, RETURN, 500);
        branch(x, 100, CALL, 400);
        branch(x, 300, JUMP, 600);
        branch(x, 308, BY_NUMBER, 600);
        int underflows = x.count(9);
        x.next(300);
        x.next(308);
        x.next(777);
        ringIs("3: jump, by number and no entry move nothing", x, 104);
        x.next(100);
        ringIs("3: a call pushes", x, 104, 104);
        tell(x, 200, 2);
        ringIs("3: a return pops", x);
        Due.same("11: something was there", x.count(9), underflows);
        x.next(200);
        Due.same("11: nothing is there, an underflow", x.count(9), underflows + 1);
        tell(x, 100, 2);
        Due.same("11: R deep is no overflow", x.count(8), 0);
        x.next(100);
        Due.same("11: told ahead it overflows", x.count(8), 1);
    }

    private static TargetRows emptyRing() {
        TargetRows x = new TargetRows(5, 4, 2);
        branch(x, 200, RETURN, 500);
        return x;
    }

    private static TargetRows fullRingAndQueue() {
        TargetRows x = emptyRing();
        branch(x, 100, CALL, 400);
        branch(x, 104, CALL, 400);
        tell(x, 300, 16);
        return x;
    }

    private static void askChangesNothing() {
        int[] places = {100, 104, 200, 300, MIN, MAX};
        for (int place : places) {
            changesNothing("2: ask(" + place + "), empty ring", TermsEdgeTest::emptyRing, x -> x.ask(place));
            changesNothing("2: ask(" + place + "), full ring and queue",
                    TermsEdgeTest::fullRingAndQueue, x -> x.ask(place));
        }
        changesNothing("2: ask by number", TermsEdgeTest::rowUnlikeItsEntry, x -> x.ask(64));
        Due.same("2: ask, the queue full", fullRingAndQueue().ask(200), 108);
    }
}
