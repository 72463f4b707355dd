/** Promises 1 to 4: a new object, key, poke, peek. */
public final class FrameTest {
    private static final Due DUE = new Due("FrameTest");
    private static final Class<IndexOutOfBoundsException> OUTSIDE = IndexOutOfBoundsException.class;

    public static void main(String[] args) {
        promise1NewObject();
        promise1KeyIsZero();
        promise2KeyFreesPages();
        promise2EveryWordOfTheKeyCounts();
        promise2WrongWords();
        promise3And4PokeAndPeek();
        promise3And4WrongFramesAndWords();
        DUE.end();
    }

    private static void promise1NewObject() {
        PageMonitor x = new PageMonitor();
        for (int page = 0; page < 20; page++) {
            DUE.same("kind of " + page, x.told(page, 0), 0);
            DUE.same("owner of " + page, x.told(page, 1), -1);
            DUE.same("state of " + page, x.told(page, 2), 0);
            DUE.same("pages of " + page, x.told(page, 3), 0);
        }
        for (int frame = 0; frame < 8; frame++) {
            for (int i = 0; i < 16; i++) {
                DUE.same("peek " + frame + " " + i, x.peek(frame, i), 0);
            }
        }
        DUE.same("result()", x.result(), 0);
        DUE.same("steps()", x.steps(), 0);
    }

    /** Code that writes the voucher for its first eight shared words over them, and leaves with 0. */
    private static int firstVouchedWord(PageMonitor x) {
        Bench.fill(x, 7, Bench.op(9, 0, 0, 0), Bench.op(0, 1, 0, 0));
        x.space(0);
        x.table(1, 0, 0);
        x.thread(2, 0, 0);
        x.data(3, 0, 0, 4, 7);
        x.share(0, 1, 3, 0);
        x.finish(0);
        Bench.fill(x, 0);
        DUE.same("enter", x.enter(2, 16, 0, 9), 0);
        return x.peek(0, 0);
    }

    private static int dueVouchedWord(PageMonitor x, int[] key) {
        return Bench.voucher(key, Bench.measureOf(x, 0), new int[8])[0];
    }

    private static void promise1KeyIsZero() {
        PageMonitor x = new PageMonitor();
        int got = firstVouchedWord(x);
        DUE.same("the voucher of a new object's key", got, dueVouchedWord(x, new int[8]));
    }

    private static void promise2KeyFreesPages() {
        PageMonitor x = Bench.ready(Bench.op(1, 0, 0, 77), Bench.op(0, 0, 0, 0));
        x.spare(9, 0);
        x.space(19);
        x.poke(4, 5, 6);
        x.enter(2, 0, 0, 1);
        x.resume(2, 1);
        DUE.same("result before", x.result(), 77);
        x.enter(2, 0, 0, 2);
        DUE.same("steps before", x.steps(), 2);
        x.enter(2, 0, 0, 1);
        x.key(3, 0);
        for (int page = 0; page < 20; page++) {
            DUE.same("kind of " + page + " behind key", x.told(page, 0), 0);
            DUE.same("owner of " + page + " behind key", x.told(page, 1), -1);
            DUE.same("state of " + page + " behind key", x.told(page, 2), 0);
            DUE.same("pages of " + page + " behind key", x.told(page, 3), 0);
        }
        DUE.same("result behind key", x.result(), 0);
        DUE.same("steps behind key", x.steps(), 1);
        DUE.same("frame behind key", x.peek(4, 5), 6);
        DUE.same("enter behind key", x.enter(2, 0, 0, 1), 3);
        x.space(0);
        x.thread(2, 0, 0);
        DUE.same("a thread made anew is not entered", x.told(2, 2), 0);
        DUE.same("the space made anew has one page", x.told(0, 3), 1);

        PageMonitor y = Bench.ready(Bench.op(1, 0, 0, 77), Bench.op(0, 0, 0, 0));
        y.enter(2, 0, 0, 2);
        y.key(0, 1);
        DUE.same("result 77 behind key", y.result(), 0);
        DUE.same("steps 2 behind key", y.steps(), 2);
    }

    private static void promise2EveryWordOfTheKeyCounts() {
        for (int i = 0; i < 8; i++) {
            PageMonitor x = new PageMonitor();
            int[] key = {1, -2, 3, Integer.MIN_VALUE, 5, 6, 7, Integer.MAX_VALUE};
            for (int k = 0; k < 8; k++) {
                x.key(k, key[k]);
            }
            key[i] = 0x01020304 * (i + 1);
            x.key(i, key[i]);
            int got = firstVouchedWord(x);
            DUE.same("voucher with key word " + i, got, dueVouchedWord(x, key));
        }
    }

    private static void promise2WrongWords() {
        PageMonitor x = Bench.ready(Bench.op(0, 0, 0, 0));
        x.enter(2, 5, 0, 1);
        String before = Bench.seen(x);
        for (int i : new int[] {-1, 8, Integer.MIN_VALUE, Integer.MAX_VALUE}) {
            DUE.thrown("key(" + i + ", 1)", OUTSIDE, () -> x.key(i, 1));
        }
        DUE.same("a key that throws changes nothing", Bench.seen(x).equals(before) ? 1 : 0, 1);
    }

    private static void promise3And4PokeAndPeek() {
        PageMonitor x = new PageMonitor();
        for (int frame = 0; frame < 8; frame++) {
            for (int i = 0; i < 16; i++) {
                DUE.same("first poke", x.poke(frame, i, frame * 1000 - i), 0);
            }
        }
        for (int frame = 0; frame < 8; frame++) {
            for (int i = 0; i < 16; i++) {
                DUE.same("peek(" + frame + ", " + i + ")", x.peek(frame, i), frame * 1000 - i);
            }
        }
        DUE.same("poke answers what was", x.poke(7, 15, Integer.MIN_VALUE), 6985);
        DUE.same("peek the lowest", x.peek(7, 15), Integer.MIN_VALUE);
        DUE.same("poke answers the lowest", x.poke(7, 15, Integer.MAX_VALUE), Integer.MIN_VALUE);
        DUE.same("the word before stays", x.peek(7, 14), 6986);
    }

    private static void promise3And4WrongFramesAndWords() {
        PageMonitor x = new PageMonitor();
        x.poke(0, 0, 3);
        x.poke(7, 15, 4);
        String before = Bench.seen(x);
        int[][] wrong = {
            {-1, 0}, {8, 0}, {0, -1}, {0, 16}, {-1, -1}, {8, 16},
            {Integer.MIN_VALUE, 0}, {0, Integer.MIN_VALUE}, {Integer.MAX_VALUE, 0}, {0, Integer.MAX_VALUE},
        };
        for (int[] w : wrong) {
            DUE.thrown("poke(" + w[0] + ", " + w[1] + ", 9)", OUTSIDE, () -> x.poke(w[0], w[1], 9));
            DUE.thrown("peek(" + w[0] + ", " + w[1] + ")", OUTSIDE, () -> x.peek(w[0], w[1]));
        }
        DUE.same("a poke that throws changes nothing", Bench.seen(x).equals(before) ? 1 : 0, 1);
    }
}
