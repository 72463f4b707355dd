import java.util.ArrayList;
import java.util.Arrays;
import java.util.HashMap;
import java.util.List;
import java.util.Map;
import java.util.TreeMap;

/**
 * The document once more, written for plainness and with the whole Java library: maps instead of
 * rows, all that is told of a building kept as words and hashed by the library, faults thrown.
 */
final class Model {
    private static final class Fault extends Exception {
        private static final long serialVersionUID = 1L;
        final int number;

        Fault(int number) {
            this.number = number;
        }
    }

    private static final class Mapped {
        final int[] words;
        final int rights;
        /** NONE for a frame. */
        final int page;

        Mapped(int[] words, int rights, int page) {
            this.words = words;
            this.rights = rights;
            this.page = page;
        }
    }

    private static final class Thing {
        final int kind;
        final int space;
        // of spaces
        int state;
        int[] measure;
        final List<Integer> told = new ArrayList<>();
        final Map<Integer, Map<Integer, Mapped>> tables = new HashMap<>();
        // of threads
        int entry;
        int[] kept;

        Thing(int kind, int space) {
            this.kind = kind;
            this.space = space;
        }

        void tell(int... words) {
            for (int i = 0; i < 16; i++) {
                told.add(i < words.length ? words[i] : 0);
            }
        }
    }

    final int[] key = new int[8];
    final int[][] frames = new int[8][16];
    final Map<Integer, Thing> things = new TreeMap<>();
    int result;
    int steps;
    /** How often each op, and each kind of end of a run, has come, so that a test can see its reach. */
    final Map<String, Integer> reached = new TreeMap<>();

    private void reach(String what) {
        reached.merge(what, 1, Integer::sum);
    }

    private static boolean in(int value, int least, int most) {
        return value >= least && value <= most;
    }

    private Thing at(int page, int kind) {
        Thing thing = things.get(page);
        return thing != null && thing.kind == kind ? thing : null;
    }

    void key(int i, int v) {
        if (!in(i, 0, 7)) {
            throw new IndexOutOfBoundsException();
        }
        key[i] = v;
        things.clear();
        result = 0;
    }

    int poke(int frame, int i, int v) {
        int old = peek(frame, i);
        frames[frame][i] = v;
        return old;
    }

    int peek(int frame, int i) {
        if (!in(frame, 0, 7) || !in(i, 0, 15)) {
            throw new IndexOutOfBoundsException();
        }
        return frames[frame][i];
    }

    int space(int page) {
        if (!in(page, 0, 19)) {
            return 1;
        }
        return things.putIfAbsent(page, new Thing(1, -1)) == null ? 0 : 2;
    }

    /** The least answer from 2 to 4 that holds, states being those the space may have. */
    private int building(int page, int space, int... states) {
        if (page >= 0 && things.containsKey(page)) {
            return 2;
        }
        Thing home = at(space, 1);
        if (home == null) {
            return 3;
        }
        return Arrays.stream(states).anyMatch(s -> s == home.state) ? 0 : 4;
    }

    int thread(int page, int space, int entry) {
        if (!in(page, 0, 19) || !in(space, 0, 19) || !in(entry, 0, 511)) {
            return 1;
        }
        int answer = building(page, space, 0);
        if (answer == 0) {
            Thing made = new Thing(2, space);
            made.entry = entry;
            things.put(page, made);
            at(space, 1).tell(1, entry);
        }
        return answer;
    }

    int table(int page, int space, int place) {
        if (!in(page, 0, 19) || !in(space, 0, 19) || !in(place, 0, 3)) {
            return 1;
        }
        int answer = building(page, space, 0);
        if (answer == 0 && at(space, 1).tables.containsKey(place)) {
            answer = 5;
        }
        if (answer == 0) {
            things.put(page, new Thing(3, space));
            at(space, 1).tables.put(place, new HashMap<>());
        }
        return answer;
    }

    private boolean open(Thing space, int block) {
        Map<Integer, Mapped> table = space.tables.get(block / 8);
        return table != null && !table.containsKey(block % 8);
    }

    int data(int page, int space, int block, int rights, int frame) {
        if (!in(page, 0, 19) || !in(space, 0, 19) || !in(block, 0, 31) || !in(rights, 1, 7) || !in(frame, 0, 7)) {
            return 1;
        }
        int answer = building(page, space, 0);
        if (answer == 0 && !open(at(space, 1), block)) {
            answer = 5;
        }
        if (answer == 0) {
            things.put(page, new Thing(4, space));
            int[] words = frames[frame].clone();
            at(space, 1).tables.get(block / 8).put(block % 8, new Mapped(words, rights, page));
            at(space, 1).tell(2, block, rights);
            at(space, 1).tell(words);
        }
        return answer;
    }

    int share(int space, int block, int rights, int frame) {
        if (!in(space, 0, 19) || !in(block, 0, 31) || rights != 1 && rights != 3 || !in(frame, 0, 7)) {
            return 1;
        }
        int answer = building(-1, space, 0);
        if (answer == 0 && !open(at(space, 1), block)) {
            answer = 5;
        }
        if (answer == 0) {
            at(space, 1).tables.get(block / 8).put(block % 8, new Mapped(frames[frame], rights, -1));
            at(space, 1).tell(3, block, rights);
        }
        return answer;
    }

    int spare(int page, int space) {
        if (!in(page, 0, 19) || !in(space, 0, 19)) {
            return 1;
        }
        int answer = building(page, space, 0, 1);
        if (answer == 0) {
            things.put(page, new Thing(5, space));
        }
        return answer;
    }

    int finish(int space) {
        if (!in(space, 0, 19)) {
            return 1;
        }
        int answer = building(-1, space, 0);
        if (answer == 0) {
            Thing home = at(space, 1);
            home.tell(4);
            home.measure = Bench.hash(home.told.stream().mapToInt(Integer::intValue).toArray());
            home.state = 1;
        }
        return answer;
    }

    int stop(int space) {
        if (!in(space, 0, 19)) {
            return 1;
        }
        int answer = building(-1, space, 0, 1);
        if (answer == 0) {
            at(space, 1).state = 2;
            things.values().stream().filter(t -> t.space == space).forEach(t -> t.kept = null);
        }
        return answer;
    }

    private int pagesOf(int space) {
        return (int) things.values().stream().filter(t -> t.space == space).count();
    }

    int remove(int page) {
        if (!in(page, 0, 19)) {
            return 1;
        }
        Thing thing = things.get(page);
        if (thing == null) {
            return 3;
        }
        int home = thing.kind == 1 ? page : thing.space;
        if (thing.kind != 5 && things.get(home).state != 2) {
            return 4;
        }
        if (thing.kind == 1 && pagesOf(page) != 0) {
            return 7;
        }
        things.remove(page);
        return 0;
    }

    int told(int page, int what) {
        if (!in(page, 0, 19)) {
            throw new IndexOutOfBoundsException();
        }
        if (!in(what, 0, 3)) {
            throw new IllegalArgumentException();
        }
        Thing thing = things.get(page);
        if (thing == null) {
            return what == 1 ? -1 : 0;
        }
        int state = thing.kind == 1 ? thing.state : thing.kept != null ? 1 : 0;
        return new int[] {thing.kind, thing.space, state, thing.kind == 1 ? pagesOf(page) : 0}[what];
    }

    int measure(int page, int i) {
        if (!in(page, 0, 19) || !in(i, 0, 7)) {
            throw new IndexOutOfBoundsException();
        }
        Thing thing = at(page, 1);
        if (thing == null || thing.measure == null) {
            throw new IllegalStateException();
        }
        return thing.measure[i];
    }

    int enter(int thread, int a, int b, int most) {
        return run(thread, most, new int[] {a, b, 0, 0, -1}, false);
    }

    int resume(int thread, int most) {
        return run(thread, most, null, true);
    }

    /** What is kept of a thread is its four registers, and its place behind them. */
    private int run(int page, int most, int[] fresh, boolean entered) {
        if (!in(page, 0, 19) || !in(most, 1, 2000)) {
            return 1;
        }
        Thing thread = at(page, 2);
        if (thread == null) {
            return 3;
        }
        if (things.get(thread.space).state != 1) {
            return 4;
        }
        if (entered != (thread.kept != null)) {
            return 6;
        }
        int[] r = entered ? thread.kept : fresh;
        if (!entered) {
            r[4] = thread.entry;
        }
        thread.kept = null;
        for (steps = 1; ; steps++) {
            try {
                if (instruction(thread.space, r)) {
                    reach("left");
                    return 0;
                }
            } catch (Fault fault) {
                result = fault.number;
                reach("fault " + fault.number);
                return 9;
            }
            if (steps == most) {
                thread.kept = r;
                result = 0;
                reach("interrupted");
                return 8;
            }
        }
    }

    private Mapped mapped(Thing space, long block) {
        Map<Integer, Mapped> table = space.tables.get((int) Math.floorDiv(block, 8L));
        return table == null ? null : table.get((int) Math.floorMod(block, 8L));
    }

    private int[] reachable(Thing space, long address, int right, int fault) throws Fault {
        Mapped there = mapped(space, Math.floorDiv(address, 16L));
        if (there == null || (there.rights & right) == 0) {
            throw new Fault(fault);
        }
        return there.words;
    }

    private int read(Thing space, long address) throws Fault {
        return reachable(space, address, 1, 2)[(int) Math.floorMod(address, 16L)];
    }

    private int[] read8(Thing space, long address) throws Fault {
        int[] words = new int[8];
        for (int k = 0; k < 8; k++) {
            words[k] = read(space, address + k);
        }
        return words;
    }

    /** True if it leaves. */
    private boolean instruction(int number, int[] r) throws Fault {
        Thing space = things.get(number);
        int w = reachable(space, r[4], 4, 1)[Math.floorMod(r[4], 16)];
        r[4]++;
        int a = w >>> 4 & 3;
        int b = w >>> 6 & 3;
        int i = Math.floorDiv(w, 256);
        int op = Math.floorMod(w, 16);
        reach("op " + (op < 10 ? "0" : "") + op);
        long there = (long) r[b] + i;
        if (op == 0) {
            result = r[a];
            return true;
        } else if (op == 1) {
            r[a] = i;
        } else if (op == 2) {
            r[a] += r[b];
        } else if (op == 3) {
            r[a] -= r[b];
        } else if (op == 4) {
            r[a] *= r[b];
        } else if (op == 5) {
            r[a] &= r[b];
        } else if (op == 6) {
            r[a] = read(space, there);
            reach("op 06 done");
        } else if (op == 7) {
            reachable(space, there, 2, 3)[(int) Math.floorMod(there, 16L)] = r[a];
            reach("op 07 done");
        } else if (op == 8) {
            r[4] += r[a] == 0 ? 0 : i;
        } else if (op == 9) {
            vouch(space, r[a], r[b]);
        } else if (op == 10) {
            int[] due = Bench.voucher(key, read8(space, r[b]), read8(space, r[b] + 8L));
            r[a] = Arrays.equals(due, read8(space, r[b] + 16L)) ? 1 : 0;
            reach("op 10 answered " + r[a]);
        } else if (op == 11) {
            r[a] = space.measure[i & 7];
        } else if (op == 12) {
            r[a] = useSpare(number, r[a], r[b], i & 7) ? 0 : 1;
            reach("op 12 answered " + r[a]);
        } else if (op == 13) {
            r[a] = giveBack(space, r[b]);
            reach("op 13 answered " + (r[a] < 0 ? "NONE" : "a page"));
        } else {
            throw new Fault(4);
        }
        return false;
    }

    private void vouch(Thing space, long from, long to) throws Fault {
        int[] said = read8(space, from);
        for (int k = 0; k < 8; k++) {
            reachable(space, to + k, 2, 3);
        }
        int[] voucher = Bench.voucher(key, space.measure, said);
        for (int k = 0; k < 8; k++) {
            reachable(space, to + k, 2, 3)[(int) ((to + k) % 16)] = voucher[k];
        }
        reach("op 09 done");
    }

    private boolean useSpare(int space, int page, int block, int rights) {
        Thing thing = at(page, 5);
        if (thing == null || thing.space != space || !in(block, 0, 31) || rights == 0
                || !open(at(space, 1), block)) {
            return false;
        }
        things.put(page, new Thing(4, space));
        at(space, 1).tables.get(block / 8).put(block % 8, new Mapped(new int[16], rights, page));
        return true;
    }

    private int giveBack(Thing space, int block) {
        Mapped there = mapped(space, block);
        if (there == null || there.page < 0) {
            return -1;
        }
        things.put(there.page, new Thing(5, things.get(there.page).space));
        space.tables.get(block / 8).remove(block % 8);
        return there.page;
    }
}
