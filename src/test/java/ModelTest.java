import java.util.Map;
import java.util.Random;
import java.util.TreeMap;

/**
 * Runs of calls drawn by a fixed seed, on the class and on the model, that must answer alike. Most
 * calls build, break and run spaces with code that was drawn, too; some are wrong on purpose.
 */
public final class ModelTest {
    private static final int RUNS = 4000;
    private static final int FIRST_POKES = 64;
    /** An object is used for 512 calls; what is looked at in the end takes some of them. */
    private static final int CALLS = 512;
    private static final int LAST_CALLS = 20 * 5 + 128;
    private static final int[] ODD = {-1, -2, -16, 20, 21, 32, 512, 600, Integer.MIN_VALUE, Integer.MAX_VALUE};
    private static final String[] TO_REACH = {
        "left", "interrupted", "fault 1", "fault 2", "fault 3", "fault 4", "op 00", "op 01", "op 02", "op 03",
        "op 04", "op 05", "op 06 done", "op 07 done", "op 08", "op 09 done", "op 10 answered 0",
        "op 10 answered 1", "op 11", "op 12 answered 0", "op 12 answered 1", "op 13 answered NONE",
        "op 13 answered a page", "op 14", "op 15",
    };

    private final Due due;
    private final Random random;
    private final PageMonitor x = new PageMonitor();
    private final Model m = new Model();
    private final int run;
    private int left = CALLS;

    private ModelTest(Due due, int run) {
        this.due = due;
        this.run = run;
        this.random = new Random(run);
    }

    public static void main(String[] args) {
        Due due = new Due("ModelTest");
        Map<String, Integer> reached = new TreeMap<>();
        for (int run = 0; run < RUNS; run++) {
            ModelTest test = new ModelTest(due, run);
            test.calls();
            test.m.reached.forEach((what, times) -> reached.merge(what, times, Integer::sum));
        }
        for (String what : TO_REACH) {
            due.same("the runs reach " + what, reached.getOrDefault(what, 0) > 0 ? 1 : 0, 1);
        }
        System.out.println("ModelTest: reached " + reached);
        due.end();
    }

    private interface Call {
        int answer();
    }

    /** What a call answers, or a number far from all answers for what it throws. */
    private static long outcome(Call call) {
        try {
            return call.answer();
        } catch (IndexOutOfBoundsException e) {
            return 1L << 40;
        } catch (IllegalStateException e) {
            return 2L << 40;
        } catch (IllegalArgumentException e) {
            return 3L << 40;
        }
    }

    private void alike(String name, Call got, Call want) {
        left--;
        due.same("run " + run + ": " + name, outcome(got), outcome(want));
    }

    private int pick(int bound) {
        return random.nextInt(40) == 0 ? ODD[random.nextInt(ODD.length)] : random.nextInt(bound);
    }

    private int choose(int... values) {
        return values[random.nextInt(values.length)];
    }

    /** Spaces are few, so that pages gather in them. */
    private int space() {
        return random.nextInt(10) == 0 ? pick(20) : choose(0, 1);
    }

    /** Of a kind that is there, mostly. */
    private int page(int kind) {
        int first = pick(20);
        for (int k = 0; k < 20; k++) {
            int page = Math.floorMod(first + k, 20);
            if (random.nextInt(20) != 0 && m.told(page, 0) == kind) {
                return page;
            }
        }
        return first;
    }

    private int word() {
        switch (random.nextInt(12)) {
            case 0:
                return random.nextInt();
            case 1:
                return choose(ODD);
            case 2:
                return random.nextInt(32);
            default:
                return instruction();
        }
    }

    private int instruction() {
        int op = random.nextInt(4) == 0 ? random.nextInt(16) : choose(1, 1, 1, 2, 3, 5, 6, 7, 8, 9, 10, 11, 12, 13);
        int i = random.nextInt(3) == 0 ? random.nextInt(128) : random.nextInt(12) - 3;
        if (op == 1 && random.nextBoolean()) {
            i = random.nextInt(32) * choose(1, 8, 16);
        }
        if (op == 12 && random.nextBoolean()) {
            return Bench.op(op, 0, 1, i);
        }
        return Bench.op(op, random.nextInt(4), random.nextInt(4), i);
    }

    private int value() {
        return choose(random.nextInt(20), random.nextInt(32), random.nextInt(128), random.nextInt(512), pick(512),
            random.nextInt());
    }

    private void poke(int frame, int i, int v) {
        alike("poke(" + frame + ", " + i + ", " + v + ")", () -> x.poke(frame, i, v), () -> m.poke(frame, i, v));
    }

    private void calls() {
        for (int k = 0; k < FIRST_POKES; k++) {
            poke(k / 16, k % 16, word());
        }
        if (run % 10 == 0) {
            vouchAndCompare();
        } else if (run % 10 < 8) {
            foundation(0, 0);
            foundation(1, 10);
        }
        // a turn takes three calls at the most
        while (left >= LAST_CALLS + 3) {
            int k = random.nextInt(100);
            if (k < 30) {
                running();
            } else if (k < 92) {
                building();
            } else {
                looking();
            }
        }
        for (int page = 0; page < 20; page++) {
            for (int what = 0; what < 4; what++) {
                look(page, what);
            }
            measured(page, run % 8);
        }
        for (int k = 0; k < 128; k++) {
            int i = k;
            alike("peek " + k, () -> x.peek(i / 16, i % 16), () -> m.peek(i / 16, i % 16));
        }
        due.same("run " + run + " keeps to its calls", left >= 0 ? 1 : 0, 1);
    }

    /** A space that has code, spare pages and threads: chance alone seldom comes that far. */
    private void foundation(int space, int first) {
        alike("space", () -> x.space(space), () -> m.space(space));
        alike("table", () -> x.table(first + 2, space, 0), () -> m.table(first + 2, space, 0));
        for (int k = 0; k < 3; k++) {
            int block = k;
            int frame = random.nextInt(4);
            int rights = choose(7, 7, 5, 4, 6);
            alike("data", () -> x.data(first + 3 + block, space, block, rights, frame),
                () -> m.data(first + 3 + block, space, block, rights, frame));
            int entry = random.nextInt(48);
            alike("thread", () -> x.thread(first + 6 + block, space, entry),
                () -> m.thread(first + 6 + block, space, entry));
        }
        int frame = random.nextInt(8);
        alike("share", () -> x.share(space, 3, 3, frame), () -> m.share(space, 3, 3, frame));
        alike("spare", () -> x.spare(first + 9, space), () -> m.spare(first + 9, space));
        alike("finish", () -> x.finish(space), () -> m.finish(space));
    }

    private void building() {
        int page = page(0);
        int space = space();
        int block = random.nextInt(3) == 0 ? pick(32) : random.nextInt(8);
        int frame = pick(8);
        switch (random.nextInt(13)) {
            case 0:
                int made = random.nextInt(4) == 0 ? pick(20) : choose(0, 1);
                alike("space " + made, () -> x.space(made), () -> m.space(made));
                break;
            case 1:
            case 2:
                int entry = random.nextInt(6) == 0 ? pick(512) : random.nextInt(64);
                alike("thread " + page + " " + space + " " + entry, () -> x.thread(page, space, entry),
                    () -> m.thread(page, space, entry));
                break;
            case 3:
            case 4:
                int place = choose(0, 0, pick(4));
                alike("table " + page + " " + space + " " + place, () -> x.table(page, space, place),
                    () -> m.table(page, space, place));
                break;
            case 5:
            case 6:
            case 7:
                int rights = choose(7, 4, 5, random.nextInt(9));
                alike("data " + page + " " + space + " " + block + " " + rights + " " + frame,
                    () -> x.data(page, space, block, rights, frame), () -> m.data(page, space, block, rights, frame));
                break;
            case 8:
                int access = choose(1, 3, 3, random.nextInt(5));
                alike("share " + space + " " + block + " " + access + " " + frame,
                    () -> x.share(space, block, access, frame), () -> m.share(space, block, access, frame));
                break;
            case 9:
                alike("spare " + page + " " + space, () -> x.spare(page, space), () -> m.spare(page, space));
                break;
            case 10:
                alike("finish " + space, () -> x.finish(space), () -> m.finish(space));
                break;
            case 11:
                if (random.nextInt(6) == 0) {
                    alike("stop " + space, () -> x.stop(space), () -> m.stop(space));
                }
                break;
            default:
                int gone = pick(20);
                alike("remove " + gone, () -> x.remove(gone), () -> m.remove(gone));
        }
    }

    private void running() {
        int thread = page(2);
        int steps = choose(1, 2, 5, 40, 40, 2000, pick(2002));
        if (random.nextInt(3) == 0) {
            alike("resume " + thread, () -> x.resume(thread, steps), () -> m.resume(thread, steps));
        } else {
            boolean forSpares = random.nextInt(3) == 0;
            int a = forSpares ? page(5) : value();
            int b = forSpares ? random.nextInt(8) : value();
            alike("enter " + thread, () -> x.enter(thread, a, b, steps), () -> m.enter(thread, a, b, steps));
        }
        alike("result", x::result, () -> m.result);
        alike("steps", x::steps, () -> m.steps);
    }

    private void look(int page, int what) {
        alike("told " + page + " " + what, () -> x.told(page, what), () -> m.told(page, what));
    }

    private void measured(int page, int i) {
        alike("measure " + page + " " + i, () -> x.measure(page, i), () -> m.measure(page, i));
    }

    private void looking() {
        int k = random.nextInt(100);
        if (k < 40) {
            look(pick(20), pick(4));
        } else if (k < 60) {
            measured(space(), pick(8));
        } else if (k < 98) {
            poke(pick(8), pick(16), word());
        } else if (random.nextInt(4) == 0) {
            int i = pick(8);
            int v = word();
            alike("key " + i, () -> { x.key(i, v); return 0; }, () -> { m.key(i, v); return 0; });
        }
    }

    /** One space vouches for words in a frame, another compares: chance alone never gets there. */
    private void vouchAndCompare() {
        for (int i = 0; i < 8; i++) {
            int k = i;
            int v = random.nextInt();
            alike("key " + i, () -> { x.key(k, v); return 0; }, () -> { m.key(k, v); return 0; });
        }
        poke(0, 0, Bench.op(9, 0, 1, 0));
        poke(0, 1, Bench.op(10, 2, 3, 16));
        poke(0, 2, Bench.op(0, 2, 0, 0));
        poke(0, 3, Bench.op(10, 0, 1, 0));
        poke(0, 4, Bench.op(0, 0, 0, 0));
        alike("space", () -> x.space(0), () -> m.space(0));
        alike("table", () -> x.table(1, 0, 0), () -> m.table(1, 0, 0));
        alike("thread", () -> x.thread(2, 0, 0), () -> m.thread(2, 0, 0));
        alike("thread", () -> x.thread(3, 0, 3), () -> m.thread(3, 0, 3));
        alike("data", () -> x.data(4, 0, 0, 5, 0), () -> m.data(4, 0, 0, 5, 0));
        alike("share", () -> x.share(0, 1, 3, 1), () -> m.share(0, 1, 3, 1));
        alike("share", () -> x.share(0, 2, 3, 2), () -> m.share(0, 2, 3, 2));
        alike("finish", () -> x.finish(0), () -> m.finish(0));
        for (int i = 0; i < 8; i++) {
            poke(1, i, m.measure(0, i));
        }
        alike("vouch", () -> x.enter(2, 24, 32, 9), () -> m.enter(2, 24, 32, 9));
        alike("compare", () -> x.enter(3, 0, 16, 9), () -> m.enter(3, 0, 16, 9));
        alike("result", x::result, () -> m.result);
        poke(1 + random.nextInt(2), random.nextInt(8), random.nextInt());
        alike("compare", () -> x.enter(3, 0, 16, 9), () -> m.enter(3, 0, 16, 9));
        alike("result", x::result, () -> m.result);
    }
}
