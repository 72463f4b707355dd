/**
 * Promises 5 to 10: space, thread, table, data, share, spare. Each comment names the promise and,
 * between quotes, the words of the document that are tested.
 */
public final class BuildTest {
    private static final Due DUE = new Due("BuildTest");
    private static final int FREE = World.FREE;
    private static final int BUILT = World.BUILT;
    private static final int FINISHED = World.FINISHED;

    public static void main(String[] args) {
        promise5FreePagesBecomeSpaces();
        promise5NewSpaceIsEmpty();
        promise5Refusals();
        promise6FreePagesBecomeThreads();
        promise6EntryFromTheFirstToTheLast();
        promise6OutOfRange();
        promise6Refusals();
        promise7EveryPlace();
        promise7EmptyEntries();
        promise7OutOfRange();
        promise7Refusals();
        promise8EveryBlock();
        promise8Rights();
        promise8WordsOfAFrame();
        promise8WordsStay();
        promise8OutOfRange();
        promise8Refusals();
        promise8NoTableOrNoEmptyEntry();
        promise9EveryBlock();
        promise9Rights();
        promise9TheFrameItself();
        promise9OutOfRange();
        promise9Refusals();
        promise9NoTableOrNoEmptyEntry();
        promise10SpaceNotStopped();
        promise10AllPages();
        promise10OutOfRange();
        promise10Refusals();
        DUE.end();
    }

    private interface Making {
        int of(PageMonitor x, int page, int space);
    }

    /** Of a call that makes something of a page for a space: the answers 1 for either, 2 and 3. */
    private static void refusesPagesAndSpaces(String name, Making making) {
        for (int none : Bench.outside(19)) {
            DUE.same(name + " of page " + none, making.of(World.make(), none, BUILT), 1);
            DUE.same(name + " for space " + none, making.of(World.make(), FREE, none), 1);
        }
        for (int page = 0; page < FREE; page++) {
            DUE.same(name + " of page " + page + ", not free", making.of(World.make(), page, BUILT), 2);
        }
        for (int none : World.NO_SPACES) {
            DUE.same(name + " for page " + none + ", no space", making.of(World.make(), FREE, none), 3);
        }
    }

    private static void refusesStates(String name, Making making, int... spaces) {
        for (int space : spaces) {
            PageMonitor x = World.make();
            DUE.same(name + " for space " + space + ", not in the state", making.of(x, FREE, space), 4);
            DUE.told(x, FREE, 0, -1, 0, 0);
        }
    }

    /** Promise 5: "A free page becomes a space." The first and the last page, and all of them. */
    private static void promise5FreePagesBecomeSpaces() {
        PageMonitor x = new PageMonitor();
        for (int page = 0; page < 20; page++) {
            DUE.same("space(" + page + ")", x.space(page), 0);
            DUE.told(x, page, 1, -1, 0, 0);
        }
        for (int page = 0; page < 20; page++) {
            DUE.same("space(" + page + ") again", x.space(page), 2);
            DUE.told(x, page, 1, -1, 0, 0);
        }
    }

    /** Promise 5: "It has four places for tables, its MEASURE": there is none yet in a new space. */
    private static void promise5NewSpaceIsEmpty() {
        PageMonitor x = new PageMonitor();
        x.space(19);
        for (int block = 0; block < 32; block++) {
            DUE.same("share(19, " + block + ", 1, 0)", x.share(19, block, 1, 0), 5);
        }
        DUE.thrown("measure(19, 0)", IllegalStateException.class, () -> x.measure(19, 0));
        for (int place = 0; place < 4; place++) {
            DUE.same("table(" + place + ", 19, " + place + ")", x.table(place, 19, place), 0);
        }
    }

    /** Promise 5: "1 a page"; "2 a page that is to become something is not free." */
    private static void promise5Refusals() {
        for (int none : Bench.outside(19)) {
            DUE.same("space(" + none + ")", World.make().space(none), 1);
        }
        for (int page = 0; page < FREE; page++) {
            PageMonitor x = World.make();
            DUE.same("space(" + page + "), not free", x.space(page), 2);
            DUE.same("its kind", x.told(page, 0), World.KINDS[page]);
            DUE.same("its space", x.told(page, 1), World.OWNERS[page]);
        }
        for (int page = FREE; page < 20; page++) {
            DUE.same("space(" + page + ")", World.make().space(page), 0);
        }
    }

    /** Promise 6: "A free page becomes a thread of a space that is built". All nineteen beside it. */
    private static void promise6FreePagesBecomeThreads() {
        for (int space : new int[] {0, 7, 19}) {
            PageMonitor x = new PageMonitor();
            x.space(space);
            for (int page = 0; page < 20; page++) {
                DUE.same("thread(" + page + ", " + space + ", 3)", x.thread(page, space, 3), page == space ? 2 : 0);
            }
            for (int page = 0; page < 20; page++) {
                DUE.told(x, page, page == space ? 1 : 2, page == space ? -1 : space, 0, page == space ? 19 : 0);
            }
        }
    }

    /** Promise 6: "with an entry 0 to 511". A thread begins at the first, and at the last. */
    private static void promise6EntryFromTheFirstToTheLast() {
        PageMonitor x = new PageMonitor();
        x.space(0);
        x.table(1, 0, 0);
        x.table(2, 0, 3);
        DUE.same("thread(3, 0, 0)", x.thread(3, 0, 0), 0);
        DUE.same("thread(4, 0, 511)", x.thread(4, 0, 511), 0);
        DUE.same("thread(5, 0, 256)", x.thread(5, 0, 256), 0);
        Bench.data(x, 6, 0, 0, 4, Bench.op(0, 0, 0, 0));
        Bench.data(x, 7, 0, 31, 4, 15, 15, 15, 15, 15, 15, 15, 15, 15, 15, 15, 15, 15, 15, 15, Bench.op(0, 1, 0, 0));
        x.finish(0);
        DUE.ran(x, "the entry 0", x.enter(3, 21, 22, 9), 0, 21, 1);
        DUE.ran(x, "the entry 511", x.enter(4, 21, 22, 9), 0, 22, 1);
        DUE.ran(x, "an entry where nothing is", x.enter(5, 21, 22, 9), 9, 1, 1);
    }

    /** Promise 6: "1 a page, frame, place or block, rights or an entry is out of its range". */
    private static void promise6OutOfRange() {
        for (int entry : Bench.outside(511)) {
            PageMonitor x = World.make();
            DUE.same("thread(17, 0, " + entry + ")", x.thread(FREE, BUILT, entry), 1);
            DUE.told(x, FREE, 0, -1, 0, 0);
        }
        for (int entry : new int[] {0, 1, 510, 511}) {
            DUE.same("thread(17, 0, " + entry + ")", World.make().thread(FREE, BUILT, entry), 0);
        }
    }

    /** Promise 6: 1 to 3, then "4 the space is not in the state told." */
    private static void promise6Refusals() {
        Making making = (x, page, space) -> x.thread(page, space, 0);
        refusesPagesAndSpaces("thread", making);
        refusesStates("thread", making, FINISHED, World.STOPPED, World.BARE);
    }

    /** Promise 7: "A free page becomes a table of a space that is built, at a place 0 to 3". */
    private static void promise7EveryPlace() {
        PageMonitor x = new PageMonitor();
        x.space(0);
        x.space(10);
        for (int place = 0; place < 4; place++) {
            DUE.same("no table yet", x.share(0, place * 8, 1, 0), 5);
            DUE.same("table at " + place, x.table(9 - place, 0, place), 0);
            DUE.told(x, 9 - place, 3, 0, 0, 0);
            DUE.same("the first entry of it", x.share(0, place * 8, 1, 0), 0);
            DUE.same("the last entry of it", x.share(0, place * 8 + 7, 1, 0), 0);
            DUE.same("the other space's place is its own", x.table(19 - place, 10, place), 0);
            DUE.told(x, 19 - place, 3, 10, 0, 0);
        }
        DUE.same("tables of space 0", x.told(0, 3), 4);
        DUE.same("tables of space 10", x.told(10, 3), 4);
    }

    /** Promise 7: "with empty entries". All eight, also of a page whose entries were full before. */
    private static void promise7EmptyEntries() {
        PageMonitor x = new PageMonitor();
        for (int again = 0; again < 2; again++) {
            x.space(0);
            DUE.same("table(1, 0, 2)", x.table(1, 0, 2), 0);
            for (int block = 16; block < 24; block++) {
                DUE.same("the entry of block " + block + " is empty", x.share(0, block, 3, 7), 0);
                DUE.same("and is full then", x.share(0, block, 3, 7), 5);
            }
            DUE.same("stop", x.stop(0), 0);
            DUE.same("remove(1)", x.remove(1), 0);
            DUE.same("remove(0)", x.remove(0), 0);
        }
    }

    /** Promise 7: "1 a page, frame, place or block, rights or an entry is out of its range". */
    private static void promise7OutOfRange() {
        for (int place : Bench.outside(3)) {
            PageMonitor x = World.make();
            DUE.same("table(17, 0, " + place + ")", x.table(FREE, BUILT, place), 1);
            DUE.told(x, FREE, 0, -1, 0, 0);
        }
        for (int place = 1; place < 4; place++) {
            DUE.same("table(17, 0, " + place + ")", World.make().table(FREE, BUILT, place), 0);
        }
    }

    /** Promise 7: 1 to 4, then "5 a table is there already at the place". */
    private static void promise7Refusals() {
        Making making = (x, page, space) -> x.table(page, space, 1);
        refusesPagesAndSpaces("table", making);
        refusesStates("table", making, FINISHED, World.STOPPED, World.BARE);
        PageMonitor x = World.make();
        DUE.same("a second table at place 0", x.table(FREE, BUILT, 0), 5);
        DUE.told(x, FREE, 0, -1, 0, 0);
        DUE.same("the entries of the first stay", x.share(BUILT, 0, 1, 0), 5);
        PageMonitor y = withTables();
        for (int place = 0; place < 4; place++) {
            DUE.same("a second table at place " + place, y.table(5, 0, place), 5);
            DUE.told(y, 5, 0, -1, 0, 0);
        }
    }

    /** A space 0 with tables at all places on pages 1 to 4. */
    private static PageMonitor withTables() {
        PageMonitor x = new PageMonitor();
        x.space(0);
        for (int place = 0; place < 4; place++) {
            x.table(1 + place, 0, place);
        }
        return x;
    }

    /** Promise 8: "A free page becomes data of a space that is built, at a block with rights". */
    private static void promise8EveryBlock() {
        for (int first = 0; first < 32; first += 15) {
            PageMonitor x = withTables();
            for (int k = 0; k < 15 && first + k < 32; k++) {
                DUE.same("data at block " + (first + k), x.data(19 - k, 0, first + k, 1, 0), 0);
                DUE.told(x, 19 - k, 4, 0, 0, 0);
                DUE.told(x, 0, 1, -1, 0, 5 + k);
            }
        }
    }

    /** Promise 8: "(rights of data 1 to 7, of frames 1 or 3)". */
    private static void promise8Rights() {
        for (int rights : new int[] {Bench.LOWEST, -8, -7, -1, 0, 8, 9, 15, Bench.HIGHEST}) {
            PageMonitor x = World.make();
            DUE.same("data with rights " + rights, x.data(FREE, BUILT, 2, rights, 0), 1);
            DUE.told(x, FREE, 0, -1, 0, 0);
            DUE.same("the entry is empty still", x.data(FREE, BUILT, 2, 1, 0), 0);
        }
        for (int rights = 1; rights <= 7; rights++) {
            DUE.same("data with rights " + rights, World.make().data(FREE, BUILT, 2, rights, 0), 0);
        }
    }

    /** Promise 8: "with the words of a frame". The first frame, the last and all between, sixteen words. */
    private static void promise8WordsOfAFrame() {
        PageMonitor x = Bench.building(Bench.op(6, 0, 0, 0), Bench.LEAVE);
        for (int k = 0; k < 112; k++) {
            x.poke(k / 16, k % 16, 100 + k);
        }
        for (int frame = 0; frame < 7; frame++) {
            DUE.same("data of frame " + frame, x.data(4 + frame, 0, 1 + frame, 1, frame), 0);
        }
        x.finish(0);
        for (int k = 0; k < 112; k += k % 16 == 0 ? 15 : 1) {
            DUE.ran(x, "word " + k % 16 + " of frame " + k / 16, x.enter(2, 16 + k, 0, 2), 0, 100 + k, 2);
        }
        PageMonitor last = Bench.building(Bench.op(6, 0, 0, 0), Bench.LEAVE);
        for (int i = 0; i < 16; i++) {
            last.poke(7, i, -100 - i);
        }
        DUE.same("data of frame 7", last.data(19, 0, 7, 1, 7), 0);
        last.finish(0);
        for (int i = 0; i < 16; i++) {
            DUE.ran(last, "word " + i + " of frame 7", last.enter(2, 112 + i, 0, 2), 0, -100 - i, 2);
        }
    }

    /** Promise 8: "with the words of a frame" as they were; the page's earlier words are gone. */
    private static void promise8WordsStay() {
        PageMonitor x = Bench.building(Bench.op(6, 0, 0, 0), Bench.LEAVE);
        for (int i = 0; i < 16; i++) {
            x.poke(2, i, 100 + i);
        }
        x.space(10);
        x.table(11, 10, 0);
        x.data(4, 10, 0, 7, 2);
        x.stop(10);
        x.remove(4);
        for (int i = 0; i < 16; i++) {
            x.poke(2, i, 200 + i);
        }
        x.data(4, 0, 5, 1, 2);
        x.finish(0);
        Bench.fill(x, 2);
        for (int i = 0; i < 16; i++) {
            DUE.ran(x, "word " + i + " of data", x.enter(2, 80 + i, 0, 2), 0, 200 + i, 2);
        }
    }

    /** Promise 8: "1 a page, frame, place or block, rights or an entry is out of its range". */
    private static void promise8OutOfRange() {
        for (int block : Bench.outside(31)) {
            PageMonitor x = World.make();
            DUE.same("data at block " + block, x.data(FREE, BUILT, block, 1, 0), 1);
            DUE.told(x, FREE, 0, -1, 0, 0);
        }
        for (int frame : Bench.outside(7)) {
            PageMonitor x = World.make();
            DUE.same("data of frame " + frame, x.data(FREE, BUILT, 2, 1, frame), 1);
            DUE.told(x, FREE, 0, -1, 0, 0);
        }
        DUE.same("data of frame 0", World.make().data(FREE, BUILT, 2, 1, 0), 0);
        DUE.same("data of frame 7", World.make().data(FREE, BUILT, 2, 1, 7), 0);
    }

    /** Promise 8: 1 to 3, then "4 the space is not in the state told." */
    private static void promise8Refusals() {
        Making making = (x, page, space) -> x.data(page, space, 2, 7, 7);
        refusesPagesAndSpaces("data", making);
        refusesStates("data", making, FINISHED, World.STOPPED, World.BARE);
    }

    /** Promise 8: "or there is none for the block; or its entry isn't empty." */
    private static void promise8NoTableOrNoEmptyEntry() {
        PageMonitor x = World.make();
        for (int block = 8; block < 32; block++) {
            DUE.same("no table for block " + block, x.data(FREE, BUILT, block, 1, 0), 5);
        }
        DUE.same("data is at block 0", x.data(FREE, BUILT, 0, 1, 0), 5);
        DUE.same("a frame is at block 1", x.data(FREE, BUILT, 1, 1, 0), 5);
        DUE.told(x, FREE, 0, -1, 0, 0);
        x.table(World.LAST_FREE, BUILT, 3);
        DUE.same("no table for block 23", x.data(FREE, BUILT, 23, 1, 0), 5);
        DUE.same("a table for block 31", x.data(FREE, BUILT, 31, 1, 0), 0);
        DUE.same("data is at block 31", x.data(World.FREE_TOO, BUILT, 31, 1, 0), 5);
        DUE.same("a table for block 24", x.data(World.FREE_TOO, BUILT, 24, 1, 0), 0);
    }

    /** Promise 9: "A frame is shared with a space that is built, at a block with rights." Every block. */
    private static void promise9EveryBlock() {
        PageMonitor x = withTables();
        for (int block = 0; block < 32; block++) {
            DUE.same("share at block " + block, x.share(0, block, block % 2 == 0 ? 1 : 3, block % 8), 0);
        }
        for (int block = 0; block < 32; block++) {
            DUE.same("share at block " + block + " again", x.share(0, block, 1, 0), 5);
        }
        DUE.told(x, 0, 1, -1, 0, 4);
    }

    /** Promise 9: "(rights of data 1 to 7, of frames 1 or 3)". */
    private static void promise9Rights() {
        for (int rights : new int[] {Bench.LOWEST, -1, 0, 2, 4, 5, 6, 7, 8, 9, 11, Bench.HIGHEST}) {
            PageMonitor x = World.make();
            DUE.same("share with rights " + rights, x.share(BUILT, 2, rights, 0), 1);
            DUE.same("the entry is empty still", x.share(BUILT, 2, 1, 0), 0);
        }
        DUE.same("share with rights 1", World.make().share(BUILT, 2, 1, 0), 0);
        DUE.same("share with rights 3", World.make().share(BUILT, 2, 3, 0), 0);
    }

    /** Promise 9: "A frame is shared": what the one writes, the other reads, at every block of it. */
    private static void promise9TheFrameItself() {
        PageMonitor x = Bench.building(Bench.op(6, 2, 0, 0), Bench.op(7, 1, 0, 1), Bench.op(0, 2, 0, 0));
        x.share(0, 3, 3, 6);
        x.share(0, 4, 1, 6);
        x.finish(0);
        x.poke(6, 4, 41);
        DUE.ran(x, "the thread sees what was poked", x.enter(2, 52, 99, 3), 0, 41, 3);
        DUE.same("the system sees what was written", x.peek(6, 5), 99);
        DUE.ran(x, "the other block has no right to write", x.enter(2, 68, 98, 3), 9, 3, 2);
        DUE.same("nothing was written", x.peek(6, 5), 99);
        DUE.same("a frame belongs to no space", x.told(0, 3), 3);
    }

    /** Promise 9: "1 a page, frame, place or block, rights or an entry is out of its range". */
    private static void promise9OutOfRange() {
        for (int none : Bench.outside(19)) {
            DUE.same("share with space " + none, World.make().share(none, 2, 1, 0), 1);
        }
        for (int block : Bench.outside(31)) {
            DUE.same("share at block " + block, World.make().share(BUILT, block, 1, 0), 1);
        }
        for (int frame : Bench.outside(7)) {
            DUE.same("share of frame " + frame, World.make().share(BUILT, 2, 1, frame), 1);
        }
        DUE.same("share of frame 0", World.make().share(BUILT, 2, 1, 0), 0);
        DUE.same("share of frame 7", World.make().share(BUILT, 2, 1, 7), 0);
    }

    /** Promise 9: "3 what ought to be a space, or thread, is none. 4 the space is not in the state told." */
    private static void promise9Refusals() {
        for (int none : World.NO_SPACES) {
            DUE.same("share with page " + none + ", no space", World.make().share(none, 2, 1, 0), 3);
        }
        for (int space : new int[] {FINISHED, World.STOPPED, World.BARE}) {
            DUE.same("share with space " + space + ", not built", World.make().share(space, 2, 1, 0), 4);
        }
    }

    /** Promise 9: "or there is none for the block; or its entry isn't empty." */
    private static void promise9NoTableOrNoEmptyEntry() {
        PageMonitor x = World.make();
        for (int block = 8; block < 32; block++) {
            DUE.same("no table for block " + block, x.share(BUILT, block, 1, 0), 5);
        }
        DUE.same("data is at block 0", x.share(BUILT, 0, 1, 0), 5);
        DUE.same("a frame is at block 1", x.share(BUILT, 1, 1, 0), 5);
        DUE.same("the same frame is at block 1", x.share(BUILT, 1, 3, 0), 5);
        x.table(FREE, BUILT, 1);
        DUE.same("no table for block 16", x.share(BUILT, 16, 3, 7), 5);
        DUE.same("a table for block 15", x.share(BUILT, 15, 3, 7), 0);
        DUE.same("a frame is at block 15", x.share(BUILT, 15, 3, 6), 5);
        DUE.same("a table for block 8", x.share(BUILT, 8, 1, 7), 0);
    }

    /** Promise 10: "A free page becomes a spare one of a space that is not stopped." Built, and finished. */
    private static void promise10SpaceNotStopped() {
        for (int space : new int[] {BUILT, FINISHED}) {
            PageMonitor x = World.make();
            int count = x.told(space, 3);
            DUE.same("spare(17, " + space + ")", x.spare(FREE, space), 0);
            DUE.told(x, FREE, 5, space, 0, 0);
            DUE.same("pages of " + space, x.told(space, 3), count + 1);
            DUE.same("again", x.spare(FREE, space), 2);
        }
        for (int space : World.STOPPED_SPACES) {
            PageMonitor x = World.make();
            DUE.same("spare(17, " + space + ")", x.spare(FREE, space), 4);
            DUE.told(x, FREE, 0, -1, 0, 0);
        }
    }

    /** Promise 10: "A free page becomes a spare one". The first, the last and all beside the space. */
    private static void promise10AllPages() {
        PageMonitor x = new PageMonitor();
        x.space(10);
        for (int page = 0; page < 20; page++) {
            DUE.same("spare(" + page + ", 10)", x.spare(page, 10), page == 10 ? 2 : 0);
        }
        DUE.told(x, 0, 5, 10, 0, 0);
        DUE.told(x, 19, 5, 10, 0, 0);
        DUE.told(x, 10, 1, -1, 0, 19);
    }

    /** Promise 10: "1 a page"; there is nothing beside the pages that could be out of its range. */
    private static void promise10OutOfRange() {
        for (int none : Bench.outside(19)) {
            DUE.same("spare(" + none + ", 0)", World.make().spare(none, BUILT), 1);
            DUE.same("spare(17, " + none + ")", World.make().spare(FREE, none), 1);
        }
    }

    /** Promise 10: "2 a page that is to become something is not free. 3 what ought to be a space". */
    private static void promise10Refusals() {
        refusesPagesAndSpaces("spare", PageMonitor::spare);
    }
}
