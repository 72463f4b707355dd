/** Promises 5 to 13: space, thread, table, data, share, spare, finish, stop, remove. */
public final class BuildTest {
    private static final Due DUE = new Due("BuildTest");
    private static final int LOWEST = Integer.MIN_VALUE;
    private static final int HIGHEST = Integer.MAX_VALUE;
    private static final int[] NO_PAGES = {-1, 20, LOWEST, HIGHEST};

    public static void main(String[] args) {
        promise5Space();
        promise6Thread();
        promise7Table();
        promise8Data();
        promise8DataKeepsTheWords();
        promise9Share();
        promise9ShareIsTheFrameItself();
        promise10Spare();
        promise11Finish();
        promise12Stop();
        promise12StopReachesTheFirstAndTheLastPage();
        promise13Remove();
        promise13RemovedPagesAreNewAgain();
        refusedCallsChangeNothing();
        DUE.end();
    }

    private static void kind(PageMonitor x, int page, int kind, int owner) {
        DUE.same("kind of " + page, x.told(page, 0), kind);
        DUE.same("owner of " + page, x.told(page, 1), owner);
    }

    private static void promise5Space() {
        PageMonitor x = new PageMonitor();
        for (int page : NO_PAGES) {
            DUE.same("space(" + page + ")", x.space(page), 1);
        }
        for (int page = 0; page < 20; page++) {
            DUE.same("space(" + page + ")", x.space(page), 0);
            kind(x, page, 1, -1);
            DUE.same("state of a new space", x.told(page, 2), 0);
            DUE.same("again", x.space(page), 2);
        }
        PageMonitor y = Bench.building();
        y.spare(5, 0);
        for (int page : new int[] {0, 1, 2, 3, 5}) {
            DUE.same("space of a page of another kind", y.space(page), 2);
        }
    }

    private static void promise6Thread() {
        PageMonitor x = new PageMonitor();
        x.space(4);
        for (int page : NO_PAGES) {
            DUE.same("thread(" + page + ", 4, 0)", x.thread(page, 4, 0), 1);
            DUE.same("thread(0, " + page + ", 0)", x.thread(0, page, 0), 1);
        }
        for (int entry : new int[] {-1, 512, LOWEST, HIGHEST}) {
            DUE.same("thread(0, 4, " + entry + ")", x.thread(0, 4, entry), 1);
            DUE.same("1 comes before 2", x.thread(4, 4, entry), 1);
        }
        DUE.same("thread(0, 4, 0)", x.thread(0, 4, 0), 0);
        DUE.same("thread(1, 4, 511)", x.thread(1, 4, 511), 0);
        kind(x, 0, 2, 4);
        kind(x, 1, 2, 4);
        DUE.same("a new thread is not entered", x.told(0, 2), 0);
        DUE.same("a page that is not free", x.thread(0, 4, 0), 2);
        DUE.same("the space itself", x.thread(4, 4, 0), 2);
        DUE.same("2 comes before 3", x.thread(0, 9, 0), 2);
        DUE.same("of a thread", x.thread(2, 0, 0), 3);
        DUE.same("of a free page", x.thread(2, 9, 0), 3);
        DUE.same("of itself", x.thread(2, 2, 0), 3);
        x.finish(4);
        DUE.same("of a finished space", x.thread(2, 4, 0), 4);
        DUE.same("2 comes before 4", x.thread(1, 4, 0), 2);
        x.stop(4);
        DUE.same("of a stopped space", x.thread(2, 4, 0), 4);
        kind(x, 2, 0, -1);
    }

    private static void promise7Table() {
        PageMonitor x = new PageMonitor();
        x.space(0);
        x.space(10);
        for (int page : NO_PAGES) {
            DUE.same("table(" + page + ", 0, 0)", x.table(page, 0, 0), 1);
            DUE.same("table(1, " + page + ", 0)", x.table(1, page, 0), 1);
        }
        for (int place : new int[] {-1, 4, LOWEST, HIGHEST}) {
            DUE.same("table(1, 0, " + place + ")", x.table(1, 0, place), 1);
        }
        for (int place = 0; place < 4; place++) {
            DUE.same("table at " + place, x.table(1 + place, 0, place), 0);
            kind(x, 1 + place, 3, 0);
            DUE.same("a second one there", x.table(6, 0, place), 5);
            DUE.same("the other space's place is its own", x.table(11 + place, 10, place), 0);
        }
        DUE.same("2 comes before 5", x.table(1, 0, 0), 2);
        DUE.same("of a free page", x.table(6, 7, 0), 3);
        DUE.same("of a table", x.table(6, 1, 0), 3);
        x.finish(0);
        DUE.same("4 comes before 5", x.table(6, 0, 0), 4);
        x.stop(10);
        DUE.same("of a stopped space", x.table(6, 10, 0), 4);
        kind(x, 6, 0, -1);
    }

    private static void promise8Data() {
        PageMonitor x = new PageMonitor();
        x.space(0);
        x.table(1, 0, 0);
        x.table(2, 0, 3);
        for (int page : NO_PAGES) {
            DUE.same("data(" + page + ", 0, 0, 1, 0)", x.data(page, 0, 0, 1, 0), 1);
            DUE.same("data(5, " + page + ", 0, 1, 0)", x.data(5, page, 0, 1, 0), 1);
        }
        for (int w : new int[] {-1, LOWEST, HIGHEST}) {
            DUE.same("block " + w, x.data(5, 0, w, 1, 0), 1);
            DUE.same("rights " + w, x.data(5, 0, 0, w, 0), 1);
            DUE.same("frame " + w, x.data(5, 0, 0, 1, w), 1);
        }
        DUE.same("block 32", x.data(5, 0, 32, 1, 0), 1);
        DUE.same("rights 0", x.data(5, 0, 0, 0, 0), 1);
        DUE.same("rights 8", x.data(5, 0, 0, 8, 0), 1);
        DUE.same("frame 8", x.data(5, 0, 0, 1, 8), 1);
        for (int rights = 1; rights <= 7; rights++) {
            DUE.same("rights " + rights, x.data(4 + rights, 0, rights - 1, rights, 7), 0);
            kind(x, 4 + rights, 4, 0);
        }
        DUE.same("the last block of a table", x.data(12, 0, 7, 1, 0), 0);
        DUE.same("the first block without a table", x.data(13, 0, 8, 1, 0), 5);
        DUE.same("the last block without a table", x.data(13, 0, 23, 1, 0), 5);
        DUE.same("the first block of the last table", x.data(13, 0, 24, 1, 0), 0);
        DUE.same("the last block of all", x.data(14, 0, 31, 1, 0), 0);
        DUE.same("an entry that isn't empty", x.data(15, 0, 31, 1, 0), 5);
        DUE.same("2 comes before 5", x.data(14, 0, 31, 1, 0), 2);
        DUE.same("of a free page", x.data(15, 16, 0, 1, 0), 3);
        DUE.same("share, then data", x.share(0, 30, 1, 0), 0);
        DUE.same("an entry that is a frame", x.data(15, 0, 30, 1, 0), 5);
        x.finish(0);
        DUE.same("4 comes before 5", x.data(15, 0, 31, 1, 0), 4);
        DUE.same("of a finished space", x.data(15, 0, 29, 1, 0), 4);
        kind(x, 15, 0, -1);
    }

    private static void promise8DataKeepsTheWords() {
        PageMonitor x = Bench.building(Bench.op(6, 0, 0, 0), Bench.op(0, 0, 0, 0));
        for (int i = 0; i < 16; i++) {
            x.poke(2, i, 100 + i);
        }
        x.data(4, 0, 5, 1, 2);
        x.finish(0);
        Bench.fill(x, 2);
        for (int i = 0; i < 16; i++) {
            DUE.same("enter", x.enter(2, 80 + i, 0, 2), 0);
            DUE.same("word " + i + " of data is what the frame had", x.result(), 100 + i);
        }
    }

    private static void promise9Share() {
        PageMonitor x = new PageMonitor();
        x.space(0);
        x.table(1, 0, 1);
        for (int page : NO_PAGES) {
            DUE.same("share(" + page + ", 8, 1, 0)", x.share(page, 8, 1, 0), 1);
        }
        for (int w : new int[] {-1, LOWEST, HIGHEST}) {
            DUE.same("block " + w, x.share(0, w, 1, 0), 1);
            DUE.same("frame " + w, x.share(0, 8, 1, w), 1);
        }
        for (int rights : new int[] {LOWEST, -1, 0, 2, 4, 5, 6, 7, 8, 9, 11, HIGHEST}) {
            DUE.same("rights " + rights, x.share(0, 8, rights, 0), 1);
        }
        DUE.same("block 32", x.share(0, 32, 1, 0), 1);
        DUE.same("frame 8", x.share(0, 8, 1, 8), 1);
        DUE.same("block 8", x.share(0, 8, 1, 7), 0);
        DUE.same("block 15", x.share(0, 15, 3, 7), 0);
        DUE.same("block 7, no table", x.share(0, 7, 3, 7), 5);
        DUE.same("block 16, no table", x.share(0, 16, 3, 7), 5);
        DUE.same("block 15 again", x.share(0, 15, 3, 6), 5);
        DUE.same("of a table", x.share(1, 8, 1, 0), 3);
        DUE.same("of a free page", x.share(9, 8, 1, 0), 3);
        DUE.same("a frame belongs to no space", x.told(0, 3), 1);
        x.finish(0);
        DUE.same("4 comes before 5", x.share(0, 15, 1, 0), 4);
        x.stop(0);
        DUE.same("of a stopped space", x.share(0, 9, 1, 0), 4);
    }

    private static void promise9ShareIsTheFrameItself() {
        PageMonitor x = Bench.building(Bench.op(6, 2, 0, 0), Bench.op(7, 1, 0, 1), Bench.op(0, 2, 0, 0));
        x.share(0, 3, 3, 6);
        x.share(0, 4, 1, 6);
        x.finish(0);
        x.poke(6, 4, 41);
        DUE.same("enter", x.enter(2, 52, 99, 3), 0);
        DUE.same("the thread sees what was poked", x.result(), 41);
        DUE.same("the system sees what was written", x.peek(6, 5), 99);
        DUE.same("the other block has no right to write", x.enter(2, 68, 98, 3), 9);
        DUE.same("fault", x.result(), 3);
        DUE.same("nothing was written", x.peek(6, 5), 99);
    }

    private static void promise10Spare() {
        PageMonitor x = new PageMonitor();
        x.space(0);
        for (int page : NO_PAGES) {
            DUE.same("spare(" + page + ", 0)", x.spare(page, 0), 1);
            DUE.same("spare(1, " + page + ")", x.spare(1, page), 1);
        }
        DUE.same("of a space that is built", x.spare(1, 0), 0);
        kind(x, 1, 5, 0);
        DUE.same("again", x.spare(1, 0), 2);
        DUE.same("2 comes before 3", x.spare(1, 9), 2);
        DUE.same("of a spare page", x.spare(2, 1), 3);
        DUE.same("of a free page", x.spare(2, 9), 3);
        x.finish(0);
        DUE.same("of a finished space", x.spare(2, 0), 0);
        kind(x, 2, 5, 0);
        x.stop(0);
        DUE.same("of a stopped space", x.spare(3, 0), 4);
        DUE.same("2 comes before 4", x.spare(2, 0), 2);
        kind(x, 3, 0, -1);
    }

    private static void promise11Finish() {
        PageMonitor x = Bench.building();
        for (int page : NO_PAGES) {
            DUE.same("finish(" + page + ")", x.finish(page), 1);
        }
        x.spare(4, 0);
        for (int page = 1; page < 6; page++) {
            DUE.same("finish(" + page + "), no space", x.finish(page), 3);
        }
        DUE.same("finish(0)", x.finish(0), 0);
        DUE.same("state", x.told(0, 2), 1);
        DUE.same("finish(0) again", x.finish(0), 4);
        x.stop(0);
        DUE.same("finish(0), stopped", x.finish(0), 4);
        DUE.same("state", x.told(0, 2), 2);
    }

    private static void promise12Stop() {
        int loop = Bench.op(1, 0, 0, 1);
        PageMonitor x = Bench.building(loop, loop, loop);
        x.thread(4, 0, 0);
        x.finish(0);
        for (int page : NO_PAGES) {
            DUE.same("stop(" + page + ")", x.stop(page), 1);
        }
        for (int page = 1; page < 6; page++) {
            DUE.same("stop(" + page + "), no space", x.stop(page), 3);
        }
        Bench.fill(x, 7, loop, loop, loop);
        x.space(10);
        x.table(11, 10, 0);
        x.thread(12, 10, 0);
        x.data(13, 10, 0, 4, 7);
        x.finish(10);
        for (int thread : new int[] {2, 4, 12}) {
            DUE.same("enter", x.enter(thread, 0, 0, 1), 8);
            DUE.same("entered", x.told(thread, 2), 1);
        }
        DUE.same("stop(0)", x.stop(0), 0);
        DUE.same("state", x.told(0, 2), 2);
        DUE.same("thread 2", x.told(2, 2), 0);
        DUE.same("thread 4", x.told(4, 2), 0);
        DUE.same("another space's thread", x.told(12, 2), 1);
        DUE.same("resume in a stopped space", x.resume(2, 1), 4);
        DUE.same("enter in a stopped space", x.enter(2, 0, 0, 1), 4);
        DUE.same("another space's thread goes on", x.resume(12, 1), 8);
        DUE.same("stop(0) again", x.stop(0), 4);
        x.space(19);
        DUE.same("stop a space that is built", x.stop(19), 0);
        DUE.same("state", x.told(19, 2), 2);
    }

    private static void promise12StopReachesTheFirstAndTheLastPage() {
        PageMonitor x = new PageMonitor();
        Bench.fill(x, 7, Bench.op(1, 0, 0, 1));
        x.space(5);
        x.table(6, 5, 0);
        x.data(7, 5, 0, 4, 7);
        x.thread(0, 5, 0);
        x.thread(19, 5, 0);
        x.finish(5);
        DUE.same("enter", x.enter(0, 0, 0, 1), 8);
        DUE.same("enter", x.enter(19, 0, 0, 1), 8);
        x.stop(5);
        DUE.same("thread 0", x.told(0, 2), 0);
        DUE.same("thread 19", x.told(19, 2), 0);
    }

    private static void promise13Remove() {
        PageMonitor x = Bench.building();
        x.spare(4, 0);
        x.spare(5, 0);
        x.spare(6, 0);
        for (int page : NO_PAGES) {
            DUE.same("remove(" + page + ")", x.remove(page), 1);
        }
        DUE.same("a free page", x.remove(7), 3);
        DUE.same("a spare one while built", x.remove(4), 0);
        kind(x, 4, 0, -1);
        for (int page = 0; page < 4; page++) {
            DUE.same("another one while built", x.remove(page), 4);
        }
        x.finish(0);
        DUE.same("a spare one when finished", x.remove(5), 0);
        for (int page = 0; page < 4; page++) {
            DUE.same("another one when finished", x.remove(page), 4);
        }
        x.stop(0);
        DUE.same("a space that has pages", x.remove(0), 7);
        DUE.same("a spare one when stopped", x.remove(6), 0);
        for (int page = 1; page < 4; page++) {
            DUE.same("a space that has pages still", x.remove(0), 7);
            DUE.same("remove(" + page + ") when stopped", x.remove(page), 0);
            kind(x, page, 0, -1);
            DUE.same("remove(" + page + ") again", x.remove(page), 3);
        }
        DUE.same("a stopped space without pages", x.remove(0), 0);
        kind(x, 0, 0, -1);
        DUE.same("again", x.remove(0), 3);
        x.space(8);
        DUE.same("a space that is built, without pages", x.remove(8), 4);
        x.finish(8);
        DUE.same("a finished space without pages", x.remove(8), 4);
    }

    private static void promise13RemovedPagesAreNewAgain() {
        PageMonitor x = Bench.ready(Bench.op(1, 0, 0, 1));
        x.enter(2, 0, 0, 1);
        x.stop(0);
        for (int page = 3; page >= 0; page--) {
            DUE.same("remove(" + page + ")", x.remove(page), 0);
        }
        DUE.same("space(0)", x.space(0), 0);
        DUE.same("a space made anew is built", x.told(0, 2), 0);
        DUE.thrown("it is not measured", IllegalStateException.class, () -> x.measure(0, 0));
        DUE.same("it has no table", x.share(0, 0, 1, 0), 5);
        DUE.same("table(1, 0, 0)", x.table(1, 0, 0), 0);
        DUE.same("the table is empty", x.share(0, 0, 1, 0), 0);
        DUE.same("thread(2, 0, 0)", x.thread(2, 0, 0), 0);
        DUE.same("the thread is not entered", x.told(2, 2), 0);
        x.finish(0);
        int[] want = Bench.hash(Bench.rows(Bench.row(3, 0, 1), Bench.row(1, 0), Bench.row(4)));
        for (int i = 0; i < 8; i++) {
            DUE.same("the measure begins anew", x.measure(0, i), want[i]);
        }
    }

    private static void refusedCallsChangeNothing() {
        PageMonitor x = Bench.building(Bench.op(0, 0, 0, 0));
        PageMonitor y = Bench.building(Bench.op(0, 0, 0, 0));
        String before = Bench.seen(x);
        int[] answers = {
            x.space(0), x.space(20), x.thread(5, 0, 512), x.thread(3, 0, 0), x.thread(5, 6, 0),
            x.table(5, 0, 0), x.table(5, 0, 4), x.data(5, 0, 0, 7, 7), x.data(5, 0, 8, 7, 7),
            x.data(5, 0, 1, 8, 7), x.share(0, 0, 1, 0), x.share(0, 31, 1, 0), x.share(0, 1, 2, 0),
            x.spare(3, 0), x.spare(5, 6), x.finish(6), x.stop(6), x.remove(0), x.remove(3),
            x.remove(6), x.enter(2, 0, 0, 5), x.enter(2, 0, 0, 0), x.resume(2, 5),
        };
        for (int k = 0; k < answers.length; k++) {
            DUE.same("refused call " + k + " is refused", answers[k] == 0 ? 1 : 0, 0);
        }
        DUE.same("refused calls change nothing", Bench.seen(x).equals(before) ? 1 : 0, 1);
        x.finish(0);
        y.finish(0);
        for (int i = 0; i < 8; i++) {
            DUE.same("refused calls are not told in the measure", x.measure(0, i), y.measure(0, i));
        }
    }
}
