/**
 * Promises 1 to 4: a new object, key, poke, peek; with what the terms say of pages and frames.
 * Each comment names the promise and, between quotes, the words of the document that are tested.
 */
public final class FrameTest {
    private static final Due DUE = new Due("FrameTest");
    private static final Class<IndexOutOfBoundsException> OUTSIDE = IndexOutOfBoundsException.class;
    private static final int[] VALUES = {0, 1, -1, Bench.LOWEST, Bench.HIGHEST, 0x01020304};

    public static void main(String[] args) {
        promise1PagesAreFree();
        promise1FramesAreZero();
        promise1KeyIsZero();
        promise1OfEveryNewObject();
        promise1NothingHasRun();
        promise2WordOfTheKey();
        promise2OtherWordsOfTheKeyStay();
        promise2PagesAreFreeThen();
        promise2FreePagesBecomeAnything();
        promise2ResultIsZeroThen();
        promise2StepsAndFramesStay();
        promise2NoSuchWord();
        promise3WordBecomes();
        promise3AnswersWhatItWas();
        promise3NoSuchFrameOrWord();
        promise4Word();
        promise4NoSuchFrameOrWord();
        promise4PagesAreNotSeen();
        DUE.end();
    }

    private static void allPagesAreFree(PageMonitor x) {
        for (int page = 0; page < 20; page++) {
            DUE.told(x, page, 0, -1, 0, 0);
        }
    }

    /** Promise 1: "All pages are free". */
    private static void promise1PagesAreFree() {
        PageMonitor x = new PageMonitor();
        allPagesAreFree(x);
        for (int page = 0; page < 20; page++) {
            DUE.same("remove(" + page + "), a free page", x.remove(page), 3);
            DUE.same("space(" + page + ")", x.space(page), 0);
        }
    }

    /** Promise 1: "frames 0"; "FRAMES 0 .. 7, which it reads and writes, have 16 words each". */
    private static void promise1FramesAreZero() {
        PageMonitor x = new PageMonitor();
        for (int frame = 0; frame < 8; frame++) {
            DUE.words("frame " + frame, Bench.frame(x, frame), new int[16]);
        }
    }

    /** The voucher for eight words 0, written by a space on pages 0 to 3, with frames 0 and 7. */
    private static int[] vouched(PageMonitor x) {
        Bench.fill(x, 7, Bench.op(9, 0, 0, 0), Bench.LEAVE);
        x.space(0);
        x.table(1, 0, 0);
        x.thread(2, 0, 0);
        x.data(3, 0, 0, 4, 7);
        x.share(0, 1, 3, 0);
        x.finish(0);
        Bench.fill(x, 0);
        DUE.same("enter", x.enter(2, 16, 0, 9), 0);
        return Bench.eight(x, 0, 0);
    }

    private static void keyIs(String call, PageMonitor x, int... key) {
        int[] got = vouched(x);
        DUE.words(call, got, Bench.voucher(key, Bench.measureOf(x, 0), new int[8]));
    }

    /** Promise 1: "the key is eight words 0". */
    private static void promise1KeyIsZero() {
        keyIs("a new object's voucher", new PageMonitor(), new int[8]);
    }

    /** Promise 1: "All pages are free; frames 0; the key is eight words 0." Whatever others have done. */
    private static void promise1OfEveryNewObject() {
        PageMonitor other = World.make();
        other.poke(7, 15, 9);
        PageMonitor x = new PageMonitor();
        allPagesAreFree(x);
        for (int frame = 0; frame < 8; frame++) {
            DUE.words("frame " + frame + " beside another object", Bench.frame(x, frame), new int[16]);
        }
        keyIs("a voucher beside another object", x, new int[8]);
        DUE.same("the other object has its own frames", other.peek(7, 15), 9);
        DUE.same("the other object has its own pages", other.told(World.STOPPED, 2), 2);
    }

    /** Promises 16 and 17 by promise 1: nothing has run in "A new object". */
    private static void promise1NothingHasRun() {
        DUE.same("result()", new PageMonitor().result(), 0);
        DUE.same("steps()", new PageMonitor().steps(), 0);
    }

    /** Promise 2: "Word i of the key becomes v". The first, the last and all between, v at its ends. */
    private static void promise2WordOfTheKey() {
        for (int i = 0; i < 8; i++) {
            for (int v : VALUES) {
                PageMonitor x = new PageMonitor();
                x.key(i, v);
                int[] key = new int[8];
                key[i] = v;
                keyIs("the voucher with key word " + i + " as " + v, x, key);
            }
        }
    }

    /** Promise 2: "Word i of the key becomes v" and no other; said once more it counts anew. */
    private static void promise2OtherWordsOfTheKeyStay() {
        for (int i = 0; i < 8; i++) {
            PageMonitor x = new PageMonitor();
            int[] key = {1, -2, 3, Bench.LOWEST, 5, 6, 7, Bench.HIGHEST};
            for (int k = 0; k < 8; k++) {
                x.key(k, key[k]);
            }
            key[i] = 0x01020304 * (i + 1);
            x.key(i, key[i]);
            keyIs("the voucher with another key word " + i, x, key);
        }
    }

    /** Promise 2: "all pages are free then". Pages of every kind, of spaces in every state, all twenty. */
    private static void promise2PagesAreFreeThen() {
        for (int i = 0; i < 8; i += 7) {
            PageMonitor x = World.make();
            x.space(World.FREE);
            x.spare(World.FREE_TOO, World.FREE);
            x.spare(World.LAST_FREE, World.BUILT);
            x.key(i, 5);
            allPagesAreFree(x);
        }
        PageMonitor same = World.make();
        same.key(0, 11);
        allPagesAreFree(same);
        PageMonitor none = new PageMonitor();
        none.key(3, 3);
        allPagesAreFree(none);
    }

    /** Promise 2: "all pages are free then", so that nothing is left of what they were. */
    private static void promise2FreePagesBecomeAnything() {
        PageMonitor x = World.make();
        x.key(0, 0);
        DUE.same("enter() of what was a thread", x.enter(World.ENTERED, 0, 0, 1), 3);
        DUE.same("resume() of what was an entered thread", x.resume(World.ENTERED, 1), 3);
        DUE.same("finish() of what was a space", x.finish(World.BUILT), 3);
        DUE.thrown("measure() of what was finished", IllegalStateException.class,
            () -> x.measure(World.FINISHED, 0));
        DUE.same("space(5)", x.space(World.FINISHED), 0);
        DUE.told(x, World.FINISHED, 1, -1, 0, 0);
        DUE.same("it has no table", x.share(World.FINISHED, 0, 1, 0), 5);
        DUE.same("thread(7, 5, 0)", x.thread(World.ENTERED, World.FINISHED, 0), 0);
        DUE.told(x, World.ENTERED, 2, World.FINISHED, 0, 0);
        DUE.same("table(6, 5, 0)", x.table(World.FINISHED_TABLE, World.FINISHED, 0), 0);
        for (int block = 0; block < 8; block++) {
            DUE.same("its entry " + block + " is empty", x.share(World.FINISHED, block, 1, 0), 0);
        }
        x.finish(World.FINISHED);
        DUE.same("resume() of a thread made anew", x.resume(World.ENTERED, 1), 6);
    }

    /** Promise 2: "the result 0". Behind a thread that left, one that faulted, and one interrupted. */
    private static void promise2ResultIsZeroThen() {
        PageMonitor left = Bench.ready(Bench.op(1, 0, 0, 77), Bench.LEAVE);
        DUE.ran(left, "leaves", left.enter(2, 0, 0, 2), 0, 77, 2);
        left.key(0, 1);
        DUE.same("result() behind key", left.result(), 0);
        PageMonitor faulted = Bench.ready(Bench.op(15, 0, 0, 0));
        DUE.ran(faulted, "faults", faulted.enter(2, 0, 0, 2), 9, 4, 1);
        faulted.key(7, 0);
        DUE.same("result() behind key", faulted.result(), 0);
        PageMonitor entered = Bench.ready(Bench.op(1, 0, 0, 77));
        DUE.ran(entered, "is interrupted", entered.enter(2, 0, 0, 1), 8, 0, 1);
        entered.key(7, 0);
        DUE.same("result() behind key", entered.result(), 0);
    }

    /** Promise 2: "(steps() and the frames stay)". */
    private static void promise2StepsAndFramesStay() {
        PageMonitor x = Bench.ready(Bench.op(1, 0, 0, 77), Bench.op(1, 0, 0, 78), Bench.LEAVE);
        x.enter(2, 0, 0, 9);
        for (int k = 0; k < 128; k++) {
            x.poke(k / 16, k % 16, 1000 + k);
        }
        x.key(3, 0);
        DUE.same("steps() behind key", x.steps(), 3);
        for (int k = 0; k < 128; k++) {
            DUE.same("peek(" + k / 16 + ", " + k % 16 + ") behind key", x.peek(k / 16, k % 16), 1000 + k);
        }
    }

    /** Promise 2: "IndexOutOfBoundsException: i is not 0 to 7."; "a call that throws changes nothing". */
    private static void promise2NoSuchWord() {
        for (int i : Bench.outside(7)) {
            PageMonitor x = World.make();
            DUE.thrown("key(" + i + ", 1)", OUTSIDE, () -> x.key(i, 1));
            DUE.alike("key(" + i + ", 1)", Bench.seen(x), Bench.seen(World.make()));
            PageMonitor y = new PageMonitor();
            DUE.thrown("key(" + i + ", 1)", OUTSIDE, () -> y.key(i, 1));
            keyIs("the voucher behind key(" + i + ", 1)", y, new int[8]);
        }
        for (int i : new int[] {0, 7}) {
            DUE.thrown("key(" + i + ", 1)", null, () -> new PageMonitor().key(i, 1));
        }
    }

    /** Promise 3: "Word i of a frame becomes v." The first and the last frame and word, v at its ends. */
    private static void promise3WordBecomes() {
        PageMonitor x = new PageMonitor();
        for (int k = 0; k < 128; k++) {
            DUE.same("first poke", x.poke(k / 16, k % 16, 7000 - k), 0);
        }
        for (int k = 0; k < 128; k++) {
            DUE.same("peek(" + k / 16 + ", " + k % 16 + ")", x.peek(k / 16, k % 16), 7000 - k);
        }
        for (int corner : new int[] {0, 15, 112, 127}) {
            for (int v : VALUES) {
                x.poke(corner / 16, corner % 16, v);
                DUE.same("peek behind poke of " + v, x.peek(corner / 16, corner % 16), v);
            }
        }
        DUE.same("the word before stays", x.peek(7, 14), 7000 - 126);
        DUE.same("the word behind stays", x.peek(0, 1), 7000 - 1);
        DUE.same("the frame behind stays", x.peek(1, 0), 7000 - 16);
    }

    /** Promise 3: "Answers what it was." Also when that is what it becomes. */
    private static void promise3AnswersWhatItWas() {
        PageMonitor x = new PageMonitor();
        int was = 0;
        for (int v : VALUES) {
            DUE.same("poke(7, 15, " + v + ")", x.poke(7, 15, v), was);
            DUE.same("poke(7, 15, " + v + ") again", x.poke(7, 15, v), v);
            was = v;
        }
        DUE.same("poke(7, 14, 1)", x.poke(7, 14, 1), 0);
    }

    private interface Look {
        int at(PageMonitor x, int frame, int i);
    }

    private static void noSuchFrameOrWord(String name, Look look) {
        for (int frame : Bench.outside(7)) {
            for (int i : new int[] {0, 15, -1, 16}) {
                throwsOutside(name, look, frame, i);
            }
        }
        for (int i : Bench.outside(15)) {
            for (int frame : new int[] {0, 7, -1, 8}) {
                throwsOutside(name, look, frame, i);
            }
        }
        for (int corner : new int[] {0, 15, 112, 127}) {
            DUE.thrown(name + " of a corner", null,
                () -> look.at(new PageMonitor(), corner / 16, corner % 16));
        }
    }

    private static void throwsOutside(String name, Look look, int frame, int i) {
        PageMonitor x = World.make();
        x.poke(0, 0, 3);
        x.poke(7, 15, 4);
        String before = Bench.seen(x);
        String call = name + "(" + frame + ", " + i + ")";
        DUE.thrown(call, OUTSIDE, () -> look.at(x, frame, i));
        DUE.alike(call, Bench.seen(x), before);
    }

    /** Promise 3: "IndexOutOfBoundsException: there is no such frame, or word." */
    private static void promise3NoSuchFrameOrWord() {
        noSuchFrameOrWord("poke", (x, frame, i) -> x.poke(frame, i, 9));
    }

    /** Promise 4: "Word i of a frame." Looking changes none of them. */
    private static void promise4Word() {
        PageMonitor x = new PageMonitor();
        for (int k = 0; k < 128; k++) {
            x.poke(k / 16, k % 16, VALUES[k % 6] + k);
        }
        for (int again = 0; again < 2; again++) {
            for (int k = 0; k < 128; k++) {
                DUE.same("peek(" + k / 16 + ", " + k % 16 + ")", x.peek(k / 16, k % 16), VALUES[k % 6] + k);
            }
        }
    }

    /** Promise 4: "IndexOutOfBoundsException: there is no such frame, or word." */
    private static void promise4NoSuchFrameOrWord() {
        noSuchFrameOrWord("peek", PageMonitor::peek);
    }

    /**
     * Promises 3, 4 and 8: "PAGES 0 .. 19, which the system never sees": what a thread writes to data
     * shows in no frame, and what the system writes to a frame is not in data made of it before.
     */
    private static void promise4PagesAreNotSeen() {
        PageMonitor x = Bench.building(Bench.op(7, 0, 1, 16), Bench.op(6, 0, 1, 17), Bench.LEAVE);
        x.poke(3, 1, 41);
        x.data(4, 0, 1, 3, 3);
        x.finish(0);
        x.poke(3, 1, 42);
        DUE.ran(x, "writes word 0 of data, reads word 1", x.enter(2, 99, 0, 9), 0, 41, 3);
        for (int frame = 0; frame < 8; frame++) {
            int[] want = new int[16];
            want[1] = frame == 3 ? 42 : 0;
            DUE.words("frame " + frame, Bench.frame(x, frame), want);
        }
    }
}
