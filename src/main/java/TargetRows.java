import java.util.Arrays;

/** Tells where branches go, and keeps account of what it missed and why. */
public final class TargetRows {
    public static final int NONE = -1;

    private static final int JUMP = 0;
    private static final int CALL = 1;
    private static final int RETURN = 2;
    private static final int BY_NUMBER = 3;

    private static final int RIGHT = 0;
    private static final int NO_ENTRY = 1;
    private static final int OTHER_KIND = 2;
    private static final int MISSED_RETURN = 3;
    private static final int MISSED_BY_NUMBER = 4;
    private static final int NOT_TAKEN = 5;
    private static final int OTHER_TARGET = 6;

    private static final int BYTE_MASK = 255;
    private static final int HISTORY_MASK = 0xFFFFFF;
    private static final int ROWS = 64;
    private static final int QUEUE_LIMIT = 16;

    private static final int ENTRY_BITS = 8 + 2 + 32;
    private static final int ROW_BITS = 8 + 32;
    private static final int PLACE_BITS = 32;
    private static final int HISTORY_BITS = 24;

    private final Table table;
    private final HistoryRows rows;
    private final Returns stack;
    private final Queue queue;
    /** How often check gave each of its answers: right at 0, then the causes. */
    private final int[] answers;
    private int checked;
    private int lost;

    public TargetRows(int sets, int ways, int returns) {
        int places = Math.floorMod(returns, 17);
        table = new Table(Math.floorMod(sets, 6), 1 + Math.floorMod(ways - 1, 4));
        rows = new HistoryRows();
        stack = new Returns(places);
        queue = new Queue(places);
        answers = new int[OTHER_TARGET + 1];
    }

    public int ask(int place) {
        return toldOf(place, table.find(place));
    }

    public int next(int place) throws UnsupportedOperationException {
        if (queue.size == QUEUE_LIMIT) {
            throw new UnsupportedOperationException("the queue is full");
        }
        int slot = table.find(place);
        int told = toldOf(place, slot);
        // The queue keeps the ring as it was before this place moves it.
        queue.add(place, told, stack);
        if (slot != NONE) {
            moveStack(table.kinds[slot], place);
        }
        return told;
    }

    public int check(int kind, boolean taken, int target)
            throws IllegalArgumentException, IllegalStateException {
        if (kind < JUMP || kind > BY_NUMBER) {
            throw new IllegalArgumentException("no such kind");
        }
        if (queue.size == 0) {
            throw new IllegalStateException("the queue is empty");
        }
        int place = queue.placeAt(0);
        int went = taken ? target : behind(place);
        int answer = queue.toldAt(0) == went ? RIGHT : causeOf(place, kind, taken);
        if (answer == RIGHT) {
            queue.dropOldest();
        } else {
            repair(place, kind, taken);
        }
        if (taken) {
            update(place, kind, target);
        }
        checked++;
        answers[answer]++;
        return answer;
    }

    public int flush() {
        int size = queue.size;
        if (size > 0) {
            queue.giveBack(stack);
            queue.clear();
            lost += size;
        }
        return size;
    }

    public int entry(int set, int way, int what) throws IndexOutOfBoundsException {
        if (set < 0 || set >= table.sets || way < 0 || way >= table.ways) {
            throw new IndexOutOfBoundsException("no such set or way");
        }
        if (what < 0 || what > 2) {
            throw new IndexOutOfBoundsException("no such what");
        }
        int slot = set * table.ways + way;
        if (what == 0) {
            return table.tags[slot];
        }
        return what == 1 ? table.kinds[slot] : table.targets[slot];
    }

    public int row(int k, int what) throws IndexOutOfBoundsException {
        if (k < 0 || k >= ROWS) {
            throw new IndexOutOfBoundsException("no such row");
        }
        if (what < 0 || what > 1) {
            throw new IndexOutOfBoundsException("no such what");
        }
        return what == 0 ? rows.tags[k] : rows.targets[k];
    }

    public int ring(int k) throws IndexOutOfBoundsException {
        if (k < 0 || k >= stack.depth) {
            throw new IndexOutOfBoundsException("the ring is not so deep");
        }
        return stack.fromTop(k);
    }

    public int queued(int k, int what) throws IndexOutOfBoundsException {
        if (k < 0 || k >= queue.size) {
            throw new IndexOutOfBoundsException("no such place in the queue");
        }
        if (what < 0 || what > 1) {
            throw new IndexOutOfBoundsException("no such what");
        }
        return what == 0 ? queue.placeAt(k) : queue.toldAt(k);
    }

    public int storage() {
        return table.sets * table.ways * ENTRY_BITS
                + ROWS * ROW_BITS
                + stack.limit * PLACE_BITS
                + HISTORY_BITS;
    }

    public int count(int what) {
        if (what >= 1 && what <= answers.length) {
            return answers[what - 1];
        }
        switch (what) {
            case 0: return checked;
            case 8: return stack.overflows;
            case 9: return stack.underflows;
            case 10: return queue.size;
            case 11: return stack.depth;
            case 12: return table.filled;
            case 13: return rows.history;
            case 14: return lost;
            case 15: return table.sets;
            case 16: return table.ways;
            case 17: return stack.limit;
            default: return NONE;
        }
    }

    private static int behind(int place) {
        return place + 4;
    }

    private int toldOf(int place, int slot) {
        if (slot == NONE) {
            return behind(place);
        }
        int kind = table.kinds[slot];
        if (kind == RETURN && stack.depth > 0) {
            return stack.fromTop(0);
        }
        if (kind == BY_NUMBER && rows.knows(place)) {
            return rows.targetFor(place);
        }
        return table.targets[slot];
    }

    private void moveStack(int kind, int place) {
        if (kind == CALL) {
            stack.push(behind(place));
        } else if (kind == RETURN) {
            stack.pop();
        }
    }

    private int causeOf(int place, int kind, boolean taken) {
        int slot = table.find(place);
        if (slot == NONE && taken) {
            return NO_ENTRY;
        }
        // An entry may have gone since its place was told; then there is no kind to differ.
        if (slot != NONE && table.kinds[slot] != kind) {
            return OTHER_KIND;
        }
        if (kind == RETURN) {
            return MISSED_RETURN;
        }
        if (kind == BY_NUMBER) {
            return MISSED_BY_NUMBER;
        }
        return taken ? OTHER_TARGET : NOT_TAKEN;
    }

    private void repair(int place, int kind, boolean taken) {
        queue.giveBack(stack);
        lost += queue.size - 1;
        queue.clear();
        if (taken) {
            moveStack(kind, place);
        }
    }

    private void update(int place, int kind, int target) {
        table.put(place, kind, target);
        // The row is chosen by the history before this branch joins it.
        if (kind == BY_NUMBER) {
            rows.put(place, target);
        }
        rows.remember(target);
    }

    /** The entries, set after set; a slot is an entry's index in all sets together. */
    private static final class Table {
        final int sets;
        final int ways;
        final int[] tags;
        final int[] kinds;
        final int[] targets;
        int filled;
        private final int setBits;
        /** When an entry came or was last used; 0 where there is none. */
        private final int[] lastUses;
        private int uses;

        /** Size 0 has no sets; each size above it has twice as many as the one before. */
        Table(int size, int ways) {
            this.setBits = size > 0 ? size - 1 : 0;
            this.sets = size > 0 ? 1 << setBits : 0;
            this.ways = ways;
            int slots = sets * ways;
            tags = new int[slots];
            kinds = new int[slots];
            targets = new int[slots];
            lastUses = new int[slots];
            Arrays.fill(tags, NONE);
        }

        int find(int place) {
            if (sets == 0) {
                return NONE;
            }
            int start = firstSlotFor(place);
            int tag = tagOf(place);
            for (int slot = start; slot < start + ways; slot++) {
                if (tags[slot] == tag) {
                    return slot;
                }
            }
            return NONE;
        }

        void put(int place, int kind, int target) {
            if (sets == 0) {
                return;
            }
            int slot = find(place);
            if (slot == NONE) {
                slot = slotToFill(place);
                if (tags[slot] == NONE) {
                    filled++;
                }
                tags[slot] = tagOf(place);
            }
            kinds[slot] = kind;
            targets[slot] = target;
            uses++;
            lastUses[slot] = uses;
        }

        /** A slot without an entry counts as used before all others, so the lowest such wins. */
        private int slotToFill(int place) {
            int start = firstSlotFor(place);
            int oldest = start;
            for (int slot = start + 1; slot < start + ways; slot++) {
                if (lastUses[slot] < lastUses[oldest]) {
                    oldest = slot;
                }
            }
            return oldest;
        }

        private int firstSlotFor(int place) {
            return ((place >>> 2) & (sets - 1)) * ways;
        }

        private int tagOf(int place) {
            return (place >>> 2 >>> setBits) & BYTE_MASK;
        }
    }

    /** Targets by the history of the branches that were taken before. */
    private static final class HistoryRows {
        final int[] tags;
        final int[] targets;
        int history;

        HistoryRows() {
            tags = new int[ROWS];
            targets = new int[ROWS];
            Arrays.fill(tags, NONE);
        }

        boolean knows(int place) {
            return tags[indexFor(place)] == tagOf(place);
        }

        int targetFor(int place) {
            return targets[indexFor(place)];
        }

        void put(int place, int target) {
            int index = indexFor(place);
            tags[index] = tagOf(place);
            targets[index] = target;
        }

        void remember(int target) {
            history = ((history << 3) ^ (target >>> 2)) & HISTORY_MASK;
        }

        private int indexFor(int place) {
            int folded = history ^ (history >>> 6) ^ (history >>> 12) ^ (history >>> 18);
            return ((place >>> 2) ^ folded) & (ROWS - 1);
        }

        private static int tagOf(int place) {
            return (place >>> 8) & BYTE_MASK;
        }
    }

    /** The ring of returns, held from the lowest place up to the top. */
    private static final class Returns {
        final int limit;
        int depth;
        int overflows;
        int underflows;
        private final int[] places;

        Returns(int limit) {
            this.limit = limit;
            places = new int[limit];
        }

        int fromTop(int k) {
            return places[depth - 1 - k];
        }

        void push(int place) {
            if (depth == limit) {
                overflows++;
                loseLowest();
            }
            // A ring of no places stays empty.
            if (depth < limit) {
                places[depth] = place;
                depth++;
            }
        }

        void pop() {
            if (depth == 0) {
                underflows++;
            } else {
                depth--;
            }
        }

        void copyTo(int[] store, int start) {
            System.arraycopy(places, 0, store, start, depth);
        }

        void copyFrom(int[] store, int start, int newDepth) {
            System.arraycopy(store, start, places, 0, newDepth);
            depth = newDepth;
        }

        private void loseLowest() {
            if (depth > 0) {
                depth--;
                System.arraycopy(places, 1, places, 0, depth);
            }
        }
    }

    /** Places told and not checked yet, each with the ring as it was before. */
    private static final class Queue {
        int size;
        private int first;
        private final int ringLength;
        private final int[] places;
        private final int[] told;
        private final int[] depths;
        private final int[] rings;

        Queue(int ringLength) {
            this.ringLength = ringLength;
            places = new int[QUEUE_LIMIT];
            told = new int[QUEUE_LIMIT];
            depths = new int[QUEUE_LIMIT];
            rings = new int[QUEUE_LIMIT * ringLength];
        }

        void add(int place, int answer, Returns stack) {
            int index = indexOf(size);
            places[index] = place;
            told[index] = answer;
            depths[index] = stack.depth;
            stack.copyTo(rings, index * ringLength);
            size++;
        }

        int placeAt(int k) {
            return places[indexOf(k)];
        }

        int toldAt(int k) {
            return told[indexOf(k)];
        }

        /** Makes the ring what it was before the oldest place was told. */
        void giveBack(Returns stack) {
            stack.copyFrom(rings, first * ringLength, depths[first]);
        }

        void dropOldest() {
            first = indexOf(1);
            size--;
        }

        void clear() {
            size = 0;
        }

        private int indexOf(int k) {
            return (first + k) & (QUEUE_LIMIT - 1);
        }
    }
}
