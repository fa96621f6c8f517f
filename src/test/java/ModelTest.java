import java.util.ArrayList;
import java.util.Arrays;
import java.util.List;
import java.util.Random;

/** Long runs of calls against a second, slower writing of the document. */
public final class ModelTest {
    private static final int RUNS = 12000;
    // The document promises 512 calls an object: looking at all of it takes up to 390, at its
    // counts 20, and the rest is left for the run itself.
    private static final int SHORT_RUN = 120;
    private static final int LONG_RUN = 490;

    public static void main(String[] args) {
        // A fixed seed, so that a failure comes again.
        Random random = new Random(20261115L);
        for (int run = 0; run < RUNS; run++) {
            oneRun(run, run % 4 == 0, random);
        }
        Due.end("ModelTest");
    }

    private static void oneRun(int run, boolean isLong, Random random) {
        int sets = number(random, 12);
        int ways = number(random, 8);
        int returns = number(random, 34);
        TargetRows x = new TargetRows(sets, ways, returns);
        Model model = new Model(sets, ways, returns);
        int[] places = somePlaces(random);
        String label = "run " + run + " (" + sets + ", " + ways + ", " + returns + ")";
        int calls = isLong ? LONG_RUN : 1 + random.nextInt(SHORT_RUN);
        for (int call = 0; call < calls; call++) {
            oneCall(label + " call " + call, x, model, places, random);
        }
        compareCounts(label, x, model);
        if (!isLong) {
            compareInside(label, x, model);
        }
    }

    private static int number(Random random, int bound) {
        return random.nextInt(10) == 0 ? random.nextInt() : random.nextInt(2 * bound) - bound;
    }

    /** Few places, some of them alike in set or tag, so that they meet again. */
    private static int[] somePlaces(Random random) {
        int[] places = new int[2 + random.nextInt(12)];
        for (int i = 0; i < places.length; i++) {
            int kind = random.nextInt(4);
            if (kind == 0 || i == 0) {
                places[i] = random.nextInt();
            } else if (kind == 1) {
                places[i] = places[i - 1] ^ (1 << random.nextInt(18));
            } else {
                places[i] = random.nextInt(64) * 4;
            }
        }
        return places;
    }

    private static void oneCall(String label, TargetRows x, Model model, int[] places, Random random) {
        int place = places[random.nextInt(places.length)];
        int dice = random.nextInt(100);
        if (dice < 45) {
            if (model.queue.size() == 16) {
                Due.fails(label + " next", UnsupportedOperationException.class, () -> x.next(place));
            } else {
                Due.same(label + " next(" + place + ")", x.next(place), model.next(place));
            }
        } else if (dice < 88) {
            checkCall(label, x, model, places, random);
        } else if (dice < 98) {
            Due.same(label + " ask(" + place + ")", x.ask(place), model.told(place));
        } else {
            Due.same(label + " flush()", x.flush(), model.flush());
        }
    }

    private static void checkCall(String label, TargetRows x, Model model, int[] places, Random random) {
        int kind = random.nextInt(20) == 0 ? random.nextInt(8) - 2 : random.nextInt(4);
        boolean taken = random.nextInt(4) != 0;
        int target = places[random.nextInt(places.length)];
        if (kind < 0 || kind > 3) {
            Due.fails(label + " check", IllegalArgumentException.class, () -> x.check(kind, taken, target));
            return;
        }
        if (model.queue.isEmpty()) {
            Due.fails(label + " check", IllegalStateException.class, () -> x.check(kind, taken, target));
            return;
        }
        // Mostly what the model would call right, so that the queue grows long.
        Waiting oldest = model.queue.get(0);
        int[] slot = model.find(oldest.place);
        boolean follow = random.nextInt(4) != 0;
        int askedKind = follow && slot != null ? slot[1] : kind;
        int askedTarget = follow ? oldest.told : target;
        Due.same(label + " check(" + askedKind + ", " + taken + ", " + askedTarget + ")",
                x.check(askedKind, taken || follow, askedTarget),
                model.check(askedKind, taken || follow, askedTarget));
    }

    private static void compareCounts(String label, TargetRows x, Model model) {
        for (int what = -1; what <= 18; what++) {
            Due.same(label + " count(" + what + ")", x.count(what), model.count(what));
        }
    }

    private static void compareInside(String label, TargetRows x, Model model) {
        for (int k = 0; k < model.stack.size(); k++) {
            int want = model.stack.get(model.stack.size() - 1 - k);
            Due.same(label + " ring(" + k + ")", x.ring(k), want);
        }
        Due.outOfBounds(label + " ring", () -> x.ring(model.stack.size()));
        for (int k = 0; k < model.queue.size(); k++) {
            Due.same(label + " queued(" + k + ", 0)", x.queued(k, 0), model.queue.get(k).place);
            Due.same(label + " queued(" + k + ", 1)", x.queued(k, 1), model.queue.get(k).told);
        }
        Due.outOfBounds(label + " queued", () -> x.queued(model.queue.size(), 0));
        for (int k = 0; k < 64; k++) {
            Due.same(label + " row(" + k + ", 0)", x.row(k, 0), model.rowTags[k]);
            Due.same(label + " row(" + k + ", 1)", x.row(k, 1), model.rowTargets[k]);
        }
        compareEntries(label, x, model);
        Due.same(label + " storage()", x.storage(),
                model.s * model.w * 42 + 64 * 40 + model.r * 32 + 24);
    }

    private static void compareEntries(String label, TargetRows x, Model model) {
        for (int set = 0; set < model.s; set++) {
            for (int way = 0; way < model.w; way++) {
                int[] held = model.table[set][way];
                int[] want = held == null ? new int[] {-1, 0, 0} : held;
                for (int what = 0; what < 3; what++) {
                    Due.same(label + " entry(" + set + ", " + way + ", " + what + ")",
                            x.entry(set, way, what), want[what]);
                }
            }
        }
    }

    private static final class Waiting {
        final int place;
        final int told;
        final List<Integer> before;

        Waiting(int place, int told, List<Integer> before) {
            this.place = place;
            this.told = told;
            this.before = before;
        }
    }

    /** The document's words, one after the other; an entry is tag, kind, target, time of last use. */
    private static final class Model {
        final int s;
        final int w;
        final int r;
        final int[][][] table;
        final int[] rowTags = new int[64];
        final int[] rowTargets = new int[64];
        List<Integer> stack = new ArrayList<>();
        final List<Waiting> queue = new ArrayList<>();
        private final int[] numbers = new int[15];
        private long history;
        private int time;

        Model(int sets, int ways, int returns) {
            int[] sizes = {0, 1, 2, 4, 8, 16};
            s = sizes[(int) rest(sets, 6)];
            w = 1 + (int) rest(ways - 1L, 4);
            r = (int) rest(returns, 17);
            table = new int[s][w][];
            Arrays.fill(rowTags, -1);
        }

        private static long rest(long number, long by) {
            long left = number % by;
            return left < 0 ? left + by : left;
        }

        private static long unsigned(int number) {
            return number & 0xFFFFFFFFL;
        }

        private int setOf(int place) {
            return (int) (unsigned(place) / 4 % s);
        }

        private int tagOf(int place) {
            return (int) (unsigned(place) / 4 / s % 256);
        }

        private int rowOf(int place) {
            long mixed = unsigned(place) / 4 ^ history ^ history / 64 ^ history / 4096 ^ history / 262144;
            return (int) (mixed % 64);
        }

        private static int rowTagOf(int place) {
            return (int) (unsigned(place) / 256 % 256);
        }

        int[] find(int place) {
            if (s == 0) {
                return null;
            }
            for (int[] held : table[setOf(place)]) {
                if (held != null && held[0] == tagOf(place)) {
                    return held;
                }
            }
            return null;
        }

        int told(int place) {
            int[] held = find(place);
            if (held == null) {
                return place + 4;
            }
            switch (held[1]) {
                case 2:
                    return stack.isEmpty() ? held[2] : stack.get(stack.size() - 1);
                case 3:
                    return rowTags[rowOf(place)] == rowTagOf(place) ? rowTargets[rowOf(place)] : held[2];
                default:
                    return held[2];
            }
        }

        private void push(int place) {
            stack.add(place);
            if (stack.size() > r) {
                stack.remove(0);
                numbers[8]++;
            }
        }

        private void pop() {
            if (stack.isEmpty()) {
                numbers[9]++;
            } else {
                stack.remove(stack.size() - 1);
            }
        }

        int next(int place) {
            int answer = told(place);
            queue.add(new Waiting(place, answer, new ArrayList<>(stack)));
            int[] held = find(place);
            if (held != null && held[1] == 1) {
                push(place + 4);
            }
            if (held != null && held[1] == 2) {
                pop();
            }
            return answer;
        }

        int check(int kind, boolean taken, int target) {
            Waiting oldest = queue.remove(0);
            int answer = 0;
            if (oldest.told != (taken ? target : oldest.place + 4)) {
                answer = cause(find(oldest.place), kind, taken);
                numbers[14] += queue.size();
                queue.clear();
                stack = oldest.before;
                if (taken && kind == 1) {
                    push(oldest.place + 4);
                }
                if (taken && kind == 2) {
                    pop();
                }
            }
            if (taken) {
                update(oldest.place, kind, target);
            }
            numbers[0]++;
            numbers[1 + answer]++;
            return answer;
        }

        private static int cause(int[] held, int kind, boolean taken) {
            boolean[] holds = {
                false, held == null && taken, held != null && held[1] != kind,
                kind == 2, kind == 3, !taken, true};
            int first = 1;
            while (!holds[first]) {
                first++;
            }
            return first;
        }

        private void update(int place, int kind, int target) {
            time++;
            int[] held = find(place);
            if (held != null) {
                held[1] = kind;
                held[2] = target;
                held[3] = time;
            } else if (s > 0) {
                table[setOf(place)][wayToFill(table[setOf(place)])] =
                        new int[] {tagOf(place), kind, target, time};
            }
            if (kind == 3) {
                rowTags[rowOf(place)] = rowTagOf(place);
                rowTargets[rowOf(place)] = target;
            }
            history = (history * 8 ^ unsigned(target) / 4) % (1L << 24);
        }

        private static int wayToFill(int[][] set) {
            for (int way = 0; way < set.length; way++) {
                if (set[way] == null) {
                    return way;
                }
            }
            int oldest = 0;
            for (int way = 1; way < set.length; way++) {
                if (set[way][3] < set[oldest][3]) {
                    oldest = way;
                }
            }
            return oldest;
        }

        int flush() {
            int size = queue.size();
            if (size > 0) {
                stack = queue.get(0).before;
            }
            queue.clear();
            numbers[14] += size;
            return size;
        }

        int count(int what) {
            switch (what) {
                case 10: return queue.size();
                case 11: return stack.size();
                case 12: return entries();
                case 13: return (int) history;
                case 15: return s;
                case 16: return w;
                case 17: return r;
                default: return what < 0 || what > 14 ? -1 : numbers[what];
            }
        }

        private int entries() {
            int all = 0;
            for (int[][] set : table) {
                for (int[] held : set) {
                    all += held == null ? 0 : 1;
                }
            }
            return all;
        }
    }
}
