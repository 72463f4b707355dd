/**
 * Promise 18: told; with what the terms say of kinds and states. Each comment names the promise and,
 * between quotes, the words of the document that are tested.
 */
public final class ToldTest {
    private static final Due DUE = new Due("ToldTest");

    public static void main(String[] args) {
        everyKind();
        belongs();
        stateOfSpaces();
        enteredThreads();
        neitherSpaceNorThread();
        noPagesAndAllPages();
        countsOfTwoSpaces();
        countsComeAndGo();
        countsOfOtherKinds();
        noSuchPage();
        noSuchWhat();
        neither();
        lookingChangesNothing();
        DUE.end();
    }

    /**
     * Promise 18: "its kind (what = 0)"; "A page's KIND: 0 FREE, 1 a SPACE, 2 a THREAD, 3 a TABLE, 4 DATA,
     * 5 a SPARE one".
     */
    private static void everyKind() {
        PageMonitor x = World.make();
        for (int page = 0; page < 20; page++) {
            DUE.same("told(" + page + ", 0)", x.told(page, 0), World.KINDS[page]);
        }
        PageMonitor y = new PageMonitor();
        y.space(10);
        y.table(0, 10, 0);
        DUE.same("a table on page 0", y.told(0, 0), 3);
        y.thread(19, 10, 0);
        DUE.same("a thread on page 19", y.told(19, 0), 2);
        y.data(18, 10, 0, 1, 0);
        DUE.same("data on page 18", y.told(18, 0), 4);
        y.spare(17, 10);
        DUE.same("a spare page 17", y.told(17, 0), 5);
    }

    /**
     * Promise 18: "the space to which it belongs, NONE if to none (1)"; "all but free ones and spaces belong
     * to a space."
     */
    private static void belongs() {
        PageMonitor x = World.make();
        for (int page = 0; page < 20; page++) {
            DUE.same("told(" + page + ", 1)", x.told(page, 1), World.OWNERS[page]);
        }
        DUE.same("NONE", PageMonitor.NONE, -1);
        for (int space : new int[] {0, 19}) {
            PageMonitor y = new PageMonitor();
            y.space(space);
            y.spare(10, space);
            DUE.same("a page of space " + space, y.told(10, 1), space);
            DUE.same("space " + space + " itself", y.told(space, 1), PageMonitor.NONE);
            y.remove(10);
            DUE.same("a page that was removed", y.told(10, 1), PageMonitor.NONE);
        }
    }

    /** Promise 18: "the state of a space"; "A space's STATE: 0 it is BUILT, 1 FINISHED, 2 STOPPED." */
    private static void stateOfSpaces() {
        for (int space : new int[] {0, 19}) {
            PageMonitor x = new PageMonitor();
            DUE.same("a free page", x.told(space, 2), 0);
            x.space(space);
            DUE.same("a new space", x.told(space, 2), 0);
            x.finish(space);
            DUE.same("a finished space", x.told(space, 2), 1);
            x.stop(space);
            DUE.same("a stopped space", x.told(space, 2), 2);
            x.remove(space);
            DUE.same("a space that was removed", x.told(space, 2), 0);
            x.space(space);
            DUE.same("a space made anew", x.told(space, 2), 0);
            x.stop(space);
            DUE.same("stopped before it was finished", x.told(space, 2), 2);
        }
    }

    /** Promise 18: "or 1 for an entered thread, else 0 (2)". */
    private static void enteredThreads() {
        PageMonitor x = Bench.ready(Bench.op(8, 0, 0, 1), Bench.LEAVE, Bench.op(15, 0, 0, 0));
        DUE.same("a new thread", x.told(2, 2), 0);
        x.enter(2, 0, 0, 1);
        DUE.same("one that was interrupted", x.told(2, 2), 1);
        x.resume(2, 1);
        DUE.same("one that left", x.told(2, 2), 0);
        x.enter(2, 1, 0, 1);
        DUE.same("one that was interrupted", x.told(2, 2), 1);
        x.resume(2, 1);
        DUE.same("one that faulted", x.told(2, 2), 0);
        x.enter(2, 0, 0, 2);
        DUE.same("one that left at once", x.told(2, 2), 0);
        x.enter(2, 1, 0, 1);
        x.stop(0);
        DUE.same("one of a stopped space", x.told(2, 2), 0);
        x.remove(2);
        DUE.same("one that was removed", x.told(2, 2), 0);
    }

    /** Promise 18: "else 0 (2)", of pages that are no space and no thread, in whatever state their space is. */
    private static void neitherSpaceNorThread() {
        PageMonitor x = World.make();
        for (int page = 0; page < 20; page++) {
            if (World.KINDS[page] != 1 && World.KINDS[page] != 2) {
                DUE.same("told(" + page + ", 2)", x.told(page, 2), 0);
            }
        }
        PageMonitor y = Bench.ready(Bench.op(1, 0, 0, 0));
        y.enter(2, 0, 0, 1);
        y.stop(0);
        y.remove(2);
        y.space(10);
        y.spare(2, 10);
        DUE.told(y, 2, 5, 10, 0, 0);
    }

    /** Promise 18: "how many pages belong to a space": none, and all nineteen beside it. */
    private static void noPagesAndAllPages() {
        for (int space = 0; space < 20; space++) {
            PageMonitor x = new PageMonitor();
            x.space(space);
            DUE.told(x, space, 1, -1, 0, 0);
            int count = 0;
            for (int page = 0; page < 20; page++) {
                count += x.spare(page, space) == 0 ? 1 : 0;
            }
            DUE.same("pages that became spare", count, 19);
            DUE.told(x, space, 1, -1, 0, 19);
        }
    }

    /** Promise 18: "how many pages belong to a space", and not those of another. */
    private static void countsOfTwoSpaces() {
        PageMonitor x = new PageMonitor();
        x.space(5);
        x.space(6);
        for (int page = 7; page < 20; page++) {
            x.spare(page, page % 3 == 0 ? 6 : 5);
        }
        DUE.told(x, 5, 1, -1, 0, 9);
        DUE.told(x, 6, 1, -1, 0, 4);
        DUE.told(x, 18, 5, 6, 0, 0);
        x.remove(18);
        DUE.told(x, 6, 1, -1, 0, 3);
        DUE.told(x, 18, 0, -1, 0, 0);
        x.spare(0, 6);
        DUE.told(x, 6, 1, -1, 0, 4);
        DUE.told(x, 0, 5, 6, 0, 0);
    }

    /** Promise 18: "how many pages belong to a space", of every kind; frames are no pages. */
    private static void countsComeAndGo() {
        PageMonitor x = new PageMonitor();
        x.space(0);
        x.table(1, 0, 0);
        DUE.same("with a table", x.told(0, 3), 1);
        x.thread(2, 0, 0);
        DUE.same("with a thread", x.told(0, 3), 2);
        x.data(3, 0, 0, 1, 0);
        DUE.same("with data", x.told(0, 3), 3);
        x.spare(4, 0);
        DUE.same("with a spare page", x.told(0, 3), 4);
        x.share(0, 1, 1, 0);
        DUE.same("a frame is no page", x.told(0, 3), 4);
        x.finish(0);
        DUE.same("finished", x.told(0, 3), 4);
        x.stop(0);
        DUE.same("stopped", x.told(0, 3), 4);
        for (int page = 1; page < 5; page++) {
            x.remove(page);
            DUE.same("without page " + page, x.told(0, 3), 4 - page);
        }
    }

    /** Promise 18: "how many pages belong to a space, else 0 (3)". */
    private static void countsOfOtherKinds() {
        PageMonitor x = World.make();
        for (int page = 0; page < 20; page++) {
            if (World.KINDS[page] != 1) {
                DUE.same("told(" + page + ", 3)", x.told(page, 3), 0);
            }
        }
    }

    /** Promise 18: "IndexOutOfBoundsException: there is no such page." */
    private static void noSuchPage() {
        PageMonitor x = World.make();
        for (int page : Bench.outside(19)) {
            for (int what = 0; what < 4; what++) {
                int w = what;
                DUE.thrown("told(" + page + ", " + what + ")", IndexOutOfBoundsException.class, () -> x.told(page, w));
            }
        }
        for (int page : new int[] {0, 19}) {
            DUE.thrown("told(" + page + ", 0)", null, () -> x.told(page, 0));
        }
    }

    /** Promise 18: "IllegalArgumentException: another what." Of pages of every kind. */
    private static void noSuchWhat() {
        PageMonitor x = World.make();
        for (int what : Bench.outside(3)) {
            for (int page = 0; page < 20; page++) {
                int p = page;
                DUE.thrown("told(" + page + ", " + what + ")", IllegalArgumentException.class, () -> x.told(p, what));
            }
        }
        for (int what : new int[] {0, 3}) {
            DUE.thrown("told(0, " + what + ")", null, () -> x.told(0, what));
        }
    }

    /** Promise 18: "IndexOutOfBoundsException: there is no such page.", which is named first, if both hold. */
    private static void neither() {
        PageMonitor x = World.make();
        for (int page : Bench.outside(19)) {
            for (int what : Bench.outside(3)) {
                DUE.thrown("told(" + page + ", " + what + ")", IndexOutOfBoundsException.class,
                    () -> x.told(page, what));
            }
        }
    }

    /** Promise 18: told() is no call that changes anything: asked again, it tells the same. */
    private static void lookingChangesNothing() {
        PageMonitor x = World.make();
        DUE.alike("told() of all", Bench.seen(x), Bench.seen(x));
    }
}
