/**
 * What calls of the system answer when they are refused (promises 5 to 15): which answer comes first
 * where several hold, and that a refused call, or one that throws, changes nothing that a later call
 * shows. Each comment names the promise and, between quotes, the words of the document.
 */
public final class RefusalTest {
    private static final Due DUE = new Due("RefusalTest");
    private static final int LOWEST = Bench.LOWEST;
    private static final int HIGHEST = Bench.HIGHEST;
    private static final int FREE = World.FREE;
    private static final int BUILT = World.BUILT;
    private static final int FINISHED = World.FINISHED;
    private static final int STOPPED = World.STOPPED;
    /** Pages out of range, and one at least of each kind for each state of its space. */
    private static final int[] PAGES = {
        LOWEST, -1, 0, 1, 2, 3, 4, 5, 6, 7, 8, 9, 10, 11, 12, 13, 14, 15, 16, 17, 18, 19, 20, HIGHEST,
    };
    private static final int[] SOME_PAGES = {-1, BUILT, World.ENTERED, World.STOPPED_SPARE, FREE, 19, 20};
    private static final int[] SOME_SPACES = {
        -1, BUILT, World.BUILT_THREAD, FINISHED, STOPPED, World.BARE, FREE, 19, 20,
    };
    /** Out of range; of the space that is built: data, a frame, two that are open, three without a table. */
    private static final int[] BLOCKS = {-1, 0, 1, 2, 7, 8, 30, 31, 32};

    /** What each way of going on tells if nothing was refused before it. */
    private static final String[] TOLD = new String[World.WAYS];

    public static void main(String[] args) {
        for (int way = 0; way < World.WAYS; way++) {
            TOLD[way] = World.tell(World.make(), way);
        }
        theWorldIsAsItSays();
        leastOfThread();
        leastOfTable();
        leastOfData();
        leastOfShare();
        leastOfSpare();
        leastOfRemove();
        leastOfEnterAndResume();
        everySpaceCall();
        everyThreadCall();
        everyTableCall();
        everyDataCall();
        everyShareCall();
        everySpareCall();
        everyFinishStopAndRemove();
        everyEnterAndResume();
        callsThatThrowChangeNothing();
        DUE.end();
    }

    private interface Call {
        int on(PageMonitor x);
    }

    private static void is(String name, int due, Call call) {
        DUE.same(name, call.on(World.make()), due);
        if (due != 0) {
            changesNothing(name, call);
        }
    }

    private static void changesNothing(String name, Call call) {
        for (int way = 0; way < World.WAYS; way++) {
            PageMonitor x = World.make();
            call.on(x);
            DUE.alike(name + ", way " + way, World.tell(x, way), TOLD[way]);
        }
    }

    /** The other tests count on what the lists of World say of its pages. */
    private static void theWorldIsAsItSays() {
        PageMonitor x = World.make();
        int[] counts = {4, 0, 0, 0, 0, 5, 0, 0, 0, 0, 0, 4, 0, 0, 0, 0, 0, 0, 0, 0};
        for (int page = 0; page < 20; page++) {
            int state = World.KINDS[page] == 1 ? World.STATES[page] : page == World.ENTERED ? 1 : 0;
            DUE.told(x, page, World.KINDS[page], World.OWNERS[page], state, counts[page]);
        }
        DUE.same("result()", x.result(), 1);
        DUE.same("steps()", x.steps(), 2);
    }

    /** Promise 6: "CALLS of the system answer 0 if all is well, else the least that holds". */
    private static void leastOfThread() {
        is("1 and 2", 1, x -> x.thread(BUILT, BUILT, 512));
        is("1 and 3", 1, x -> x.thread(FREE, FREE, 512));
        is("1 and 4", 1, x -> x.thread(FREE, STOPPED, -1));
        is("1, 2 and 3", 1, x -> x.thread(World.ENTERED, World.ENTERED, -1));
        is("1 by the page, and 3", 1, x -> x.thread(20, FREE, 0));
        is("1 by the space, and 2", 1, x -> x.thread(BUILT, 20, 0));
        is("2 and 3", 2, x -> x.thread(World.ENTERED, World.ENTERED, 0));
        is("2 and 4", 2, x -> x.thread(FINISHED, FINISHED, 0));
        is("3, of itself", 3, x -> x.thread(FREE, FREE, 0));
    }

    /** Promise 7: "CALLS of the system answer 0 if all is well, else the least that holds". */
    private static void leastOfTable() {
        is("1 and 2", 1, x -> x.table(BUILT, BUILT, 4));
        is("1 and 3", 1, x -> x.table(FREE, FREE, 4));
        is("1 and 4", 1, x -> x.table(FREE, FINISHED, -1));
        is("1 and 5", 1, x -> x.table(20, BUILT, 0));
        is("2 and 3", 2, x -> x.table(World.ENTERED, World.ENTERED, 0));
        is("2 and 4", 2, x -> x.table(FINISHED, FINISHED, 1));
        is("2 and 5", 2, x -> x.table(World.BUILT_TABLE, BUILT, 0));
        is("3, of itself", 3, x -> x.table(FREE, FREE, 0));
        is("4 and 5, finished", 4, x -> x.table(FREE, FINISHED, 0));
        is("4 and 5, stopped", 4, x -> x.table(FREE, STOPPED, 0));
    }

    /** Promise 8: "CALLS of the system answer 0 if all is well, else the least that holds". */
    private static void leastOfData() {
        is("1 by the block, and 2", 1, x -> x.data(BUILT, BUILT, 32, 1, 0));
        is("1 by the rights, and 2", 1, x -> x.data(BUILT, BUILT, 2, 8, 0));
        is("1 by the frame, and 2", 1, x -> x.data(BUILT, BUILT, 2, 1, 8));
        is("1 by the rights, and 3", 1, x -> x.data(FREE, FREE, 2, 0, 0));
        is("1 by the frame, and 4", 1, x -> x.data(FREE, FINISHED, 2, 1, -1));
        is("1 by the rights, and 5, no table", 1, x -> x.data(FREE, BUILT, 8, 0, 0));
        is("1 by the frame, and 5, full", 1, x -> x.data(FREE, BUILT, 0, 1, 8));
        is("2 and 3", 2, x -> x.data(World.ENTERED, World.ENTERED, 2, 1, 0));
        is("2 and 4", 2, x -> x.data(World.ENTERED, FINISHED, 2, 1, 0));
        is("2 and 5, full", 2, x -> x.data(World.BUILT_DATA, BUILT, 0, 1, 0));
        is("2 and 5, no table", 2, x -> x.data(World.BUILT_DATA, BUILT, 31, 1, 0));
        is("4 and 5, full", 4, x -> x.data(FREE, FINISHED, 0, 1, 0));
        is("4 and 5, no table", 4, x -> x.data(FREE, FINISHED, 31, 1, 0));
        is("4 and 5, stopped and bare", 4, x -> x.data(FREE, World.BARE, 0, 1, 0));
    }

    /** Promise 9: "CALLS of the system answer 0 if all is well, else the least that holds". */
    private static void leastOfShare() {
        is("1 by the block, and 3", 1, x -> x.share(FREE, 32, 1, 0));
        is("1 by the rights, and 3", 1, x -> x.share(FREE, 2, 2, 0));
        is("1 by the frame, and 4", 1, x -> x.share(FINISHED, 2, 1, 8));
        is("1 by the rights, and 5, full", 1, x -> x.share(BUILT, 1, 4, 0));
        is("1 by the frame, and 5, no table", 1, x -> x.share(BUILT, 31, 1, -1));
        is("4 and 5, full", 4, x -> x.share(FINISHED, 1, 3, 1));
        is("4 and 5, no table", 4, x -> x.share(FINISHED, 8, 3, 1));
        is("4 and 5, stopped and bare", 4, x -> x.share(World.BARE, 0, 1, 0));
    }

    /** Promise 10: "CALLS of the system answer 0 if all is well, else the least that holds". */
    private static void leastOfSpare() {
        is("1 by the space, and 2", 1, x -> x.spare(BUILT, 20));
        is("1 by the page, and 3", 1, x -> x.spare(-1, FREE));
        is("1 by the page, and 4", 1, x -> x.spare(20, STOPPED));
        is("2 and 3", 2, x -> x.spare(World.ENTERED, World.ENTERED));
        is("2 and 4", 2, x -> x.spare(STOPPED, STOPPED));
        is("3, of itself", 3, x -> x.spare(FREE, FREE));
    }

    /** Promise 13: "CALLS of the system answer 0 if all is well, else the least that holds". */
    private static void leastOfRemove() {
        is("4 and 7, built", 4, x -> x.remove(BUILT));
        is("4 and 7, finished", 4, x -> x.remove(FINISHED));
        is("7", 7, x -> x.remove(STOPPED));
    }

    /** Promises 14 and 15: "CALLS of the system answer 0 if all is well, else the least that holds". */
    private static void leastOfEnterAndResume() {
        is("enter: 1 and 3", 1, x -> x.enter(FREE, 0, 0, 0));
        is("enter: 1 and 4", 1, x -> x.enter(World.BUILT_THREAD, 0, 0, 2001));
        is("enter: 1 and 6", 1, x -> x.enter(World.ENTERED, 0, 0, 0));
        is("resume: 1 and 3", 1, x -> x.resume(FREE, 2001));
        is("resume: 1, 4 and 6", 1, x -> x.resume(World.BUILT_THREAD, 0));
        is("resume: 1 and 6", 1, x -> x.resume(World.LEFT, 2001));
        is("resume: 4 and 6, built", 4, x -> x.resume(World.BUILT_THREAD, 1));
        is("resume: 4 and 6, stopped", 4, x -> x.resume(World.STOPPED_THREAD, 1));
    }

    // What follows tries whole tables of arguments, with what is due worked out from the lists of World.

    private static boolean in(int value, int most) {
        return value >= 0 && value <= most;
    }

    private static boolean isPage(int page) {
        return in(page, 19);
    }

    /** The answer 3 or 4 for what ought to be a space, in a state that is not above the latest. */
    private static int spaceDue(int space, int latest) {
        if (World.KINDS[space] != 1) {
            return 3;
        }
        return World.STATES[space] > latest ? 4 : 0;
    }

    private static int newDue(int page, int space, int latest) {
        return World.KINDS[page] != 0 ? 2 : spaceDue(space, latest);
    }

    private static int blockDue(int block) {
        return block >= 2 && block < 8 ? 0 : 5;
    }

    /** Promise 5: "and change nothing then". Every page. */
    private static void everySpaceCall() {
        for (int page : PAGES) {
            is("space(" + page + ")", !isPage(page) ? 1 : World.KINDS[page] != 0 ? 2 : 0, x -> x.space(page));
        }
    }

    /** Promise 6: "and change nothing then". Every page for every page as its space. */
    private static void everyThreadCall() {
        for (int page : PAGES) {
            for (int space : PAGES) {
                for (int entry : new int[] {-1, 0, 511, 512}) {
                    int due = !isPage(page) || !isPage(space) || !in(entry, 511) ? 1 : newDue(page, space, 0);
                    is("thread(" + page + ", " + space + ", " + entry + ")", due, x -> x.thread(page, space, entry));
                }
            }
        }
    }

    /** Promise 7: "and change nothing then". Every page for every page as its space. */
    private static void everyTableCall() {
        for (int page : PAGES) {
            for (int space : PAGES) {
                for (int place : new int[] {-1, 0, 3, 4}) {
                    int due = !isPage(page) || !isPage(space) || !in(place, 3) ? 1 : newDue(page, space, 0);
                    int last = due == 0 && place == 0 ? 5 : due;
                    is("table(" + page + ", " + space + ", " + place + ")", last, x -> x.table(page, space, place));
                }
            }
        }
    }

    /** Promise 8: "and change nothing then". */
    private static void everyDataCall() {
        for (int page : SOME_PAGES) {
            for (int space : SOME_SPACES) {
                for (int block : BLOCKS) {
                    dataCalls(page, space, block);
                }
            }
        }
    }

    private static void dataCalls(int page, int space, int block) {
        for (int rights : new int[] {0, 1, 7, 8}) {
            for (int frame : new int[] {-1, 0, 7, 8}) {
                boolean ranges = isPage(page) && isPage(space) && in(block, 31) && in(rights - 1, 6) && in(frame, 7);
                int due = ranges ? newDue(page, space, 0) : 1;
                is("data(" + page + ", " + space + ", " + block + ", " + rights + ", " + frame + ")",
                    due == 0 ? blockDue(block) : due, x -> x.data(page, space, block, rights, frame));
            }
        }
    }

    /** Promise 9: "and change nothing then". */
    private static void everyShareCall() {
        for (int space : PAGES) {
            for (int block : BLOCKS) {
                for (int rights = 0; rights < 5; rights++) {
                    shareCalls(space, block, rights);
                }
            }
        }
    }

    private static void shareCalls(int space, int block, int rights) {
        for (int frame : new int[] {-1, 0, 7, 8}) {
            boolean ranges = isPage(space) && in(block, 31) && (rights == 1 || rights == 3) && in(frame, 7);
            int due = ranges ? spaceDue(space, 0) : 1;
            is("share(" + space + ", " + block + ", " + rights + ", " + frame + ")",
                due == 0 ? blockDue(block) : due, x -> x.share(space, block, rights, frame));
        }
    }

    /** Promise 10: "and change nothing then". Every page for every page as its space. */
    private static void everySpareCall() {
        for (int page : PAGES) {
            for (int space : PAGES) {
                int due = !isPage(page) || !isPage(space) ? 1 : newDue(page, space, 1);
                is("spare(" + page + ", " + space + ")", due, x -> x.spare(page, space));
            }
        }
    }

    /** Promises 11, 12 and 13: "and change nothing then". Every page. */
    private static void everyFinishStopAndRemove() {
        for (int page : PAGES) {
            is("finish(" + page + ")", isPage(page) ? spaceDue(page, 0) : 1, x -> x.finish(page));
            is("stop(" + page + ")", isPage(page) ? spaceDue(page, 1) : 1, x -> x.stop(page));
            is("remove(" + page + ")", isPage(page) ? removeDue(page) : 1, x -> x.remove(page));
        }
    }

    private static int removeDue(int page) {
        if (World.KINDS[page] == 0) {
            return 3;
        }
        if (World.KINDS[page] != 5 && World.STATES[page] != 2) {
            return 4;
        }
        return page == STOPPED ? 7 : 0;
    }

    /** Promises 14 and 15: "and change nothing then". Every page; steps out of range, and at its ends. */
    private static void everyEnterAndResume() {
        for (int page : PAGES) {
            for (int steps : new int[] {LOWEST, -1, 0, 1, 2000, 2001, HIGHEST}) {
                boolean ranges = isPage(page) && steps >= 1 && steps <= 2000;
                int enter = !ranges ? 1 : runDue(page, World.ENTERED);
                int resume = !ranges ? 1 : runDue(page, World.LEFT);
                if (enter != 0) {
                    is("enter(" + page + ", 3, 4, " + steps + ")", enter, x -> x.enter(page, 3, 4, steps));
                }
                if (resume != 0) {
                    is("resume(" + page + ", " + steps + ")", resume, x -> x.resume(page, steps));
                }
            }
        }
    }

    /** Of the finished space's two threads one is wrong for enter(), the other for resume(). */
    private static int runDue(int page, int wrong) {
        if (World.KINDS[page] != 2) {
            return 3;
        }
        if (World.STATES[page] != 1) {
            return 4;
        }
        return page == wrong ? 6 : 0;
    }

    private static Call catching(Call call) {
        return x -> {
            try {
                DUE.same("a call that ought to throw", call.on(x), -99);
            } catch (IndexOutOfBoundsException | IllegalArgumentException | IllegalStateException e) {
                return 1;
            }
            return 0;
        };
    }

    /** Promises 2, 3, 4, 18, 19: "Methods throw what their comments name; a call that throws changes nothing." */
    private static void callsThatThrowChangeNothing() {
        for (int i : Bench.outside(7)) {
            is("key(" + i + ", 9)", 1, catching(x -> {
                x.key(i, 9);
                return 0;
            }));
            is("poke(" + i + ", 0, 9)", 1, catching(x -> x.poke(i, 0, 9)));
            is("peek(" + i + ", 0)", 1, catching(x -> x.peek(i, 0)));
            is("measure(5, " + i + ")", 1, catching(x -> x.measure(FINISHED, i)));
        }
        for (int i : Bench.outside(15)) {
            is("poke(7, " + i + ", 9)", 1, catching(x -> x.poke(7, i, 9)));
            is("peek(7, " + i + ")", 1, catching(x -> x.peek(7, i)));
        }
        for (int page : Bench.outside(19)) {
            is("told(" + page + ", 0)", 1, catching(x -> x.told(page, 0)));
            is("measure(" + page + ", 0)", 1, catching(x -> x.measure(page, 0)));
        }
        for (int page = 0; page < 20; page++) {
            int p = page;
            is("told(" + page + ", 4)", 1, catching(x -> x.told(p, 4)));
            if (page != FINISHED && page != STOPPED) {
                is("measure(" + page + ", 0)", 1, catching(x -> x.measure(p, 0)));
            }
        }
    }
}
