/**
 * Promises 11 to 13: finish, stop, remove. Each comment names the promise and, between quotes, the
 * words of the document that are tested.
 */
public final class StateTest {
    private static final Due DUE = new Due("StateTest");
    private static final int STEP = Bench.op(1, 0, 0, 1);

    public static void main(String[] args) {
        promise11BuiltIsFinished();
        promise11EmptySpace();
        promise11Refusals();
        promise12BuiltOrFinishedIsStopped();
        promise12ThreadsAreNotEntered();
        promise12FirstAndLastPage();
        promise12Refusals();
        promise13SpareWhateverTheState();
        promise13OthersWhenStopped();
        promise13SpaceWithoutPages();
        promise13SpaceWithPages();
        promise13OnePageIsEnough();
        promise13Refusals();
        promise13PageBecomesFree();
        promise13RemovedPagesAreNewAgain();
        DUE.end();
    }

    /** Promise 11: "A space that is built is finished." No page but the space tells of it. */
    private static void promise11BuiltIsFinished() {
        PageMonitor x = World.make();
        DUE.same("finish(0)", x.finish(World.BUILT), 0);
        DUE.told(x, World.BUILT, 1, -1, 1, 4);
        for (int page = 1; page < 20; page++) {
            DUE.same("kind of " + page, x.told(page, 0), World.KINDS[page]);
            DUE.same("space of " + page, x.told(page, 1), World.OWNERS[page]);
        }
        DUE.same("enter() behind finish()", x.enter(World.BUILT_THREAD, 1, 2, 9), 0);
        DUE.same("thread() behind finish()", x.thread(World.FREE, World.BUILT, 0), 4);
        DUE.same("table() behind finish()", x.table(World.FREE, World.BUILT, 1), 4);
        DUE.same("data() behind finish()", x.data(World.FREE, World.BUILT, 2, 1, 0), 4);
        DUE.same("share() behind finish()", x.share(World.BUILT, 2, 1, 0), 4);
        DUE.same("spare() behind finish()", x.spare(World.FREE, World.BUILT), 0);
    }

    /** Promise 11: "A space that is built is finished", also when it has no pages; the first, the last. */
    private static void promise11EmptySpace() {
        PageMonitor x = new PageMonitor();
        for (int space : new int[] {0, 19}) {
            x.space(space);
            DUE.same("finish(" + space + ")", x.finish(space), 0);
            DUE.told(x, space, 1, -1, 1, 0);
        }
    }

    /** Promise 11: "1 a page"; "3 what ought to be a space"; "4 the space is not in the state told." */
    private static void promise11Refusals() {
        for (int none : Bench.outside(19)) {
            DUE.same("finish(" + none + ")", World.make().finish(none), 1);
        }
        for (int none : World.NO_SPACES) {
            DUE.same("finish(" + none + "), no space", World.make().finish(none), 3);
        }
        for (int space : new int[] {World.FINISHED, World.STOPPED, World.BARE}) {
            PageMonitor x = World.make();
            DUE.same("finish(" + space + "), not built", x.finish(space), 4);
            DUE.same("its state", x.told(space, 2), World.STATES[space]);
        }
        PageMonitor twice = World.make();
        DUE.same("finish(0)", twice.finish(World.BUILT), 0);
        DUE.same("finish(0) again", twice.finish(World.BUILT), 4);
    }

    /** Promise 12: "A space that is not stopped is stopped". One that is built, and a finished one. */
    private static void promise12BuiltOrFinishedIsStopped() {
        for (int space : new int[] {World.BUILT, World.FINISHED}) {
            PageMonitor x = World.make();
            int count = x.told(space, 3);
            DUE.same("stop(" + space + ")", x.stop(space), 0);
            DUE.told(x, space, 1, -1, 2, count);
            DUE.same("stop(" + space + ") again", x.stop(space), 4);
            DUE.told(x, space, 1, -1, 2, count);
            DUE.same("finish(" + space + ") behind stop()", x.finish(space), 4);
            DUE.same("spare() behind stop()", x.spare(World.FREE, space), 4);
            DUE.same("thread() behind stop()", x.thread(World.FREE, space, 0), 4);
        }
    }

    /** Promise 12: "its threads are not entered any more": all of its own, and none of another's. */
    private static void promise12ThreadsAreNotEntered() {
        PageMonitor x = Bench.building(STEP, STEP, STEP);
        x.thread(4, 0, 0);
        x.finish(0);
        Bench.fill(x, 7, STEP, STEP, STEP);
        x.space(10);
        x.table(11, 10, 0);
        x.thread(12, 10, 0);
        x.data(13, 10, 0, 4, 7);
        x.finish(10);
        for (int thread : new int[] {2, 4, 12}) {
            DUE.same("enter(" + thread + ")", x.enter(thread, 0, 0, 1), 8);
            DUE.same("it is entered", x.told(thread, 2), 1);
        }
        DUE.same("stop(0)", x.stop(0), 0);
        DUE.told(x, 2, 2, 0, 0, 0);
        DUE.told(x, 4, 2, 0, 0, 0);
        DUE.told(x, 12, 2, 10, 1, 0);
        DUE.same("resume() in a stopped space", x.resume(2, 1), 4);
        DUE.same("enter() in a stopped space", x.enter(2, 0, 0, 1), 4);
        DUE.same("another space's thread goes on", x.resume(12, 1), 8);
        DUE.same("steps()", x.steps(), 1);
    }

    /** Promise 12: "its threads are not entered any more", on the first page and on the last. */
    private static void promise12FirstAndLastPage() {
        PageMonitor x = new PageMonitor();
        Bench.fill(x, 7, STEP);
        x.space(5);
        x.table(6, 5, 0);
        x.data(7, 5, 0, 4, 7);
        x.thread(0, 5, 0);
        x.thread(19, 5, 0);
        x.finish(5);
        DUE.same("enter(0)", x.enter(0, 0, 0, 1), 8);
        DUE.same("enter(19)", x.enter(19, 0, 0, 1), 8);
        x.stop(5);
        DUE.same("thread 0", x.told(0, 2), 0);
        DUE.same("thread 19", x.told(19, 2), 0);
    }

    /** Promise 12: "1 a page"; "3 what ought to be a space"; "4 the space is not in the state told." */
    private static void promise12Refusals() {
        for (int none : Bench.outside(19)) {
            DUE.same("stop(" + none + ")", World.make().stop(none), 1);
        }
        for (int none : World.NO_SPACES) {
            PageMonitor x = World.make();
            DUE.same("stop(" + none + "), no space", x.stop(none), 3);
            DUE.same("the entered thread", x.told(World.ENTERED, 2), 1);
        }
        for (int space : World.STOPPED_SPACES) {
            DUE.same("stop(" + space + "), stopped", World.make().stop(space), 4);
        }
    }

    /** Promise 13: "A page that isn't free becomes so: a spare one whatever its space's state". */
    private static void promise13SpareWhateverTheState() {
        int[][] sparesAndSpaces = {
            {World.BUILT_SPARE, World.BUILT}, {World.FINISHED_SPARE, World.FINISHED},
            {World.STOPPED_SPARE, World.STOPPED},
        };
        for (int[] w : sparesAndSpaces) {
            PageMonitor x = World.make();
            int count = x.told(w[1], 3);
            DUE.same("remove(" + w[0] + "), a spare one", x.remove(w[0]), 0);
            DUE.told(x, w[0], 0, -1, 0, 0);
            DUE.same("pages of " + w[1], x.told(w[1], 3), count - 1);
            DUE.same("remove(" + w[0] + ") again", x.remove(w[0]), 3);
        }
    }

    /** Promise 13: "all others, also a space, when that is stopped (4)". */
    private static void promise13OthersWhenStopped() {
        for (int page = 0; page < World.FREE; page++) {
            if (World.KINDS[page] == 5 || page == World.STOPPED) {
                continue;
            }
            PageMonitor x = World.make();
            boolean goes = World.STATES[page] == 2;
            DUE.same("remove(" + page + ")", x.remove(page), goes ? 0 : 4);
            DUE.same("kind of " + page, x.told(page, 0), goes ? 0 : World.KINDS[page]);
            DUE.same("space of " + page, x.told(page, 1), goes ? -1 : World.OWNERS[page]);
        }
    }

    /** Promise 13: "also a space, when that is stopped (4)", when there are no pages in the way. */
    private static void promise13SpaceWithoutPages() {
        PageMonitor x = new PageMonitor();
        x.space(0);
        DUE.same("remove(0), built", x.remove(0), 4);
        x.finish(0);
        DUE.same("remove(0), finished", x.remove(0), 4);
        x.stop(0);
        DUE.same("remove(0), stopped", x.remove(0), 0);
        DUE.told(x, 0, 0, -1, 0, 0);
        x.space(19);
        x.stop(19);
        DUE.same("remove(19), stopped before it was finished", x.remove(19), 0);
    }

    /**
     * Promise 13: "a space besides when no page belongs to it (7)", and 4 comes before 7; "7 a space to be
     * removed has pages still."
     */
    private static void promise13SpaceWithPages() {
        PageMonitor x = World.make();
        DUE.same("remove(0), built, with pages", x.remove(World.BUILT), 4);
        DUE.same("remove(5), finished, with pages", x.remove(World.FINISHED), 4);
        int[] pages = {World.STOPPED_TABLE, World.STOPPED_SPARE, World.STOPPED_DATA, World.STOPPED_THREAD};
        for (int k = 0; k < pages.length; k++) {
            DUE.same("remove(11), with " + (4 - k) + " pages", x.remove(World.STOPPED), 7);
            DUE.told(x, World.STOPPED, 1, -1, 2, 4 - k);
            DUE.same("remove(" + pages[k] + ")", x.remove(pages[k]), 0);
        }
        DUE.same("remove(11), with no page", x.remove(World.STOPPED), 0);
        DUE.told(x, World.STOPPED, 0, -1, 0, 0);
    }

    /** Promise 13: "a space besides when no page belongs to it (7)": one of any kind is enough. */
    private static void promise13OnePageIsEnough() {
        int[] pages = {World.STOPPED_TABLE, World.STOPPED_SPARE, World.STOPPED_DATA, World.STOPPED_THREAD};
        for (int last : pages) {
            PageMonitor x = World.make();
            for (int page : pages) {
                if (page != last) {
                    x.remove(page);
                }
            }
            DUE.same("remove(11), with page " + last, x.remove(World.STOPPED), 7);
        }
        for (int page : new int[] {0, 19}) {
            PageMonitor x = new PageMonitor();
            x.space(10);
            x.spare(page, 10);
            x.stop(10);
            DUE.same("remove(10), with page " + page, x.remove(10), 7);
            x.remove(page);
            DUE.same("remove(10), with no page", x.remove(10), 0);
        }
    }

    /** Promise 13: "1 a page"; "(3: it is free.)". */
    private static void promise13Refusals() {
        for (int none : Bench.outside(19)) {
            DUE.same("remove(" + none + ")", World.make().remove(none), 1);
        }
        for (int page = World.FREE; page < 20; page++) {
            PageMonitor x = World.make();
            DUE.same("remove(" + page + "), free", x.remove(page), 3);
            DUE.told(x, page, 0, -1, 0, 0);
        }
    }

    /** Promise 13: "A page that isn't free becomes so": it may become whatever a free page may. */
    private static void promise13PageBecomesFree() {
        for (int page : new int[] {World.STOPPED_TABLE, World.STOPPED_THREAD, World.STOPPED_DATA, World.BARE}) {
            for (int kind = 1; kind <= 5; kind++) {
                PageMonitor x = World.make();
                x.remove(page);
                int answer = kind == 1 ? x.space(page) : kind == 2 ? x.thread(page, World.BUILT, 0)
                    : kind == 3 ? x.table(page, World.BUILT, 1) : kind == 4 ? x.data(page, World.BUILT, 2, 7, 0)
                    : x.spare(page, World.BUILT);
                DUE.same("page " + page + " becomes one of kind " + kind, answer, 0);
                DUE.told(x, page, kind, kind == 1 ? -1 : World.BUILT, 0, 0);
            }
        }
    }

    /** Promise 13: "A page that isn't free becomes so", with nothing left of what it was. */
    private static void promise13RemovedPagesAreNewAgain() {
        PageMonitor x = Bench.ready(STEP);
        x.enter(2, 0, 0, 1);
        x.stop(0);
        for (int page = 3; page >= 0; page--) {
            DUE.same("remove(" + page + ")", x.remove(page), 0);
        }
        DUE.same("space(0)", x.space(0), 0);
        DUE.same("a space made anew is built", x.told(0, 2), 0);
        DUE.thrown("it is not measured", IllegalStateException.class, () -> x.measure(0, 0));
        DUE.same("it has no table", x.share(0, 0, 1, 0), 5);
        DUE.same("table(1, 0, 0)", x.table(1, 0, 0), 0);
        DUE.same("the table is empty", x.share(0, 0, 1, 0), 0);
        DUE.same("thread(2, 0, 0)", x.thread(2, 0, 0), 0);
        DUE.same("the thread is not entered", x.told(2, 2), 0);
        x.finish(0);
        DUE.same("it cannot be resumed", x.resume(2, 1), 6);
        DUE.words("the measure begins anew", Bench.measureOf(x, 0),
            Bench.hash(Bench.rows(Bench.row(3, 0, 1), Bench.row(1, 0), Bench.row(4))));
    }
}
