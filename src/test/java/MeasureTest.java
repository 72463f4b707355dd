/**
 * Promise 19: measure; with what the terms say of the hash and of what is told, against the Java
 * library's SHA-256. Each comment names the promise and, between quotes, the words of the document.
 */
public final class MeasureTest {
    private static final Due DUE = new Due("MeasureTest");
    private static final Class<IndexOutOfBoundsException> OUTSIDE = IndexOutOfBoundsException.class;
    private static final Class<IllegalStateException> NOT_MEASURED = IllegalStateException.class;

    public static void main(String[] args) {
        emptySpace();
        threads();
        data();
        wordsOfData();
        frames();
        tablesAndSparesAreNotTold();
        allThatIsTold();
        orderCounts();
        longestBuilding();
        everyLength();
        manyThreads();
        refusedCallsAreNotTold();
        framesChangeBehind();
        twoSpacesAtOnce();
        pagesDoNotCount();
        staysWhenRunAndStopped();
        noSuchPageOrWord();
        noSpace();
        notFinished();
        whichComesFirst();
        DUE.end();
    }

    private static void measured(String call, PageMonitor x, int space, int[]... rows) {
        DUE.words(call, Bench.measureOf(x, space), Bench.hash(Bench.rows(rows)));
    }

    private static PageMonitor withTables() {
        PageMonitor x = new PageMonitor();
        x.space(0);
        for (int place = 0; place < 4; place++) {
            x.table(1 + place, 0, place);
        }
        return x;
    }

    /**
     * Promise 19: "when it is finished 4": the least that is told, of a space that has nothing; "HASH of
     * words, a multiple of 16 of them: the digest of eight words of SHA-256 of their bytes".
     */
    private static void emptySpace() {
        for (int space : new int[] {0, 19}) {
            PageMonitor x = new PageMonitor();
            x.space(space);
            x.finish(space);
            measured("an empty space", x, space, Bench.row(4));
        }
        PageMonitor x = new PageMonitor();
        x.space(7);
        x.finish(7);
        // SHA-256 of these sixty-four bytes by another program than Java's library
        DUE.words("an empty space", Bench.measureOf(x, 7), new int[] {
            -253478100, 1206795508, -2040746074, -1035965267,
            -280200476, 1638563794, 1017063759, -2001977821,
        });
    }

    /** Promise 19: "for a thread 1 and its entry". The first entry, the last and some between. */
    private static void threads() {
        for (int entry : new int[] {0, 1, 15, 16, 255, 256, 510, 511}) {
            PageMonitor x = new PageMonitor();
            x.space(0);
            x.thread(1, 0, entry);
            x.finish(0);
            measured("a thread with entry " + entry, x, 0, Bench.row(1, entry), Bench.row(4));
        }
    }

    /** Promise 19: "for data 2, block and rights, then its sixteen words behind that". Blocks and rights. */
    private static void data() {
        for (int block = 0; block < 32; block++) {
            int rights = 1 + block % 7;
            PageMonitor x = withTables();
            x.data(5, 0, block, rights, 0);
            x.finish(0);
            measured("data at block " + block, x, 0, Bench.row(2, block, rights), Bench.row(), Bench.row(4));
        }
    }

    /** Promise 19: "then its sixteen words behind that": each of them; "the highest of each word first". */
    private static void wordsOfData() {
        for (int i = 0; i < 16; i++) {
            for (int v : new int[] {1, -1, 0x01020304, Bench.LOWEST, Bench.HIGHEST}) {
                PageMonitor x = withTables();
                x.poke(7, i, v);
                x.data(5, 0, 31, 7, 7);
                x.finish(0);
                int[] words = new int[16];
                words[i] = v;
                measured("word " + i + " is " + v, x, 0, Bench.row(2, 31, 7), words, Bench.row(4));
            }
        }
    }

    /** Promise 19: "for a frame that is shared 3, block, rights": neither its number nor its words. */
    private static void frames() {
        for (int block = 0; block < 32; block++) {
            for (int rights = 1; rights <= 3; rights += 2) {
                PageMonitor x = withTables();
                x.poke(block % 8, 5, 77);
                x.share(0, block, rights, block % 8);
                x.finish(0);
                measured("a frame at block " + block, x, 0, Bench.row(3, block, rights), Bench.row(4));
            }
        }
    }

    /** Promise 19: "THE MEASURE is the hash of what is told": tables and spare pages are not. */
    private static void tablesAndSparesAreNotTold() {
        PageMonitor x = withTables();
        x.spare(5, 0);
        x.spare(6, 0);
        x.remove(5);
        x.finish(0);
        measured("tables and spare pages", x, 0, Bench.row(4));
        x.spare(5, 0);
        x.remove(6);
        measured("spare pages behind finish()", x, 0, Bench.row(4));
    }

    /** Promise 19: "THE MEASURE is the hash of what is told of its building, in that order". */
    private static void allThatIsTold() {
        PageMonitor x = new PageMonitor();
        x.space(3);
        x.thread(4, 3, 511);
        x.table(5, 3, 3);
        int[] words = new int[16];
        for (int i = 0; i < 16; i++) {
            words[i] = 0x12345678 * (i - 8);
            x.poke(6, i, words[i]);
        }
        x.data(6, 3, 24, 7, 6);
        x.spare(7, 3);
        x.share(3, 31, 3, 6);
        x.share(3, 30, 1, 5);
        x.thread(8, 3, 0);
        x.remove(7);
        x.poke(6, 0, 1);
        x.finish(3);
        measured("all that is told", x, 3, Bench.row(1, 511), Bench.row(2, 24, 7), words, Bench.row(3, 31, 3),
            Bench.row(3, 30, 1), Bench.row(1, 0), Bench.row(4));
    }

    /** Promise 19: "in that order, sixteen words each, those that are not told 0". */
    private static void orderCounts() {
        PageMonitor x = new PageMonitor();
        x.space(0);
        x.space(1);
        x.thread(2, 0, 5);
        x.thread(3, 1, 6);
        x.thread(4, 0, 6);
        x.thread(5, 1, 5);
        x.finish(1);
        x.finish(0);
        measured("5, then 6", x, 0, Bench.row(1, 5), Bench.row(1, 6), Bench.row(4));
        measured("6, then 5", x, 1, Bench.row(1, 6), Bench.row(1, 5), Bench.row(4));
    }

    /** Promise 19: "in that order": the longest building, of fifteen pages of data and seventeen frames. */
    private static void longestBuilding() {
        PageMonitor x = withTables();
        int[][] rows = new int[15 * 2 + 17 + 1][];
        int told = 0;
        for (int k = 0; k < 15; k++) {
            x.poke(0, k, -k);
            DUE.same("data", x.data(5 + k, 0, 31 - k, 1 + k % 7, 0), 0);
            int[] words = new int[16];
            for (int i = 0; i <= k; i++) {
                words[i] = -i;
            }
            rows[told++] = Bench.row(2, 31 - k, 1 + k % 7);
            rows[told++] = words;
        }
        for (int block = 0; block < 17; block++) {
            DUE.same("share", x.share(0, block, 1, block % 8), 0);
            rows[told++] = Bench.row(3, block, 1);
        }
        DUE.same("no block is left", x.share(0, 17, 1, 0), 5);
        rows[told] = Bench.row(4);
        x.finish(0);
        measured("the longest building", x, 0, rows);
    }

    /** Promise 19: "(with its padding: a bit 1, zeros, the length in bits in 64)", from one row to 33. */
    private static void everyLength() {
        for (int shared = 0; shared <= 32; shared++) {
            PageMonitor x = withTables();
            int[][] rows = new int[shared + 1][];
            for (int block = 0; block < shared; block++) {
                x.share(0, block, 3, 0);
                rows[block] = Bench.row(3, block, 3);
            }
            rows[shared] = Bench.row(4);
            x.finish(0);
            measured(shared + " frames", x, 0, rows);
        }
    }

    /** Promise 19: "for a thread 1 and its entry": as many threads as there are pages for. */
    private static void manyThreads() {
        PageMonitor x = new PageMonitor();
        x.space(10);
        int[][] rows = new int[20][];
        int told = 0;
        for (int page = 0; page < 20; page++) {
            if (page != 10) {
                x.thread(page, 10, 511 - page);
                rows[told++] = Bench.row(1, 511 - page);
            }
        }
        rows[told] = Bench.row(4);
        x.finish(10);
        measured("nineteen threads", x, 10, rows);
    }

    /** Promise 19: a refused call tells nothing: "else the least that holds, and change nothing then". */
    private static void refusedCallsAreNotTold() {
        PageMonitor x = withTables();
        x.thread(5, 0, 512);
        x.thread(0, 0, 1);
        x.thread(5, 6, 1);
        x.data(5, 0, 32, 1, 0);
        x.data(5, 0, 0, 8, 0);
        x.data(5, 0, 0, 1, 8);
        x.data(1, 0, 0, 1, 0);
        x.share(0, 32, 1, 0);
        x.share(0, 0, 2, 0);
        x.share(0, 0, 1, 8);
        x.table(5, 0, 0);
        x.share(0, 9, 1, 0);
        x.share(0, 9, 3, 0);
        x.data(5, 0, 9, 1, 0);
        x.finish(1);
        x.finish(0);
        x.thread(5, 0, 1);
        x.data(5, 0, 0, 1, 0);
        x.share(0, 0, 1, 0);
        x.finish(0);
        measured("one frame and many refused calls", x, 0, Bench.row(3, 9, 1), Bench.row(4));
    }

    /** Promise 19: "then its sixteen words": those that the frame had when data() was called. */
    private static void framesChangeBehind() {
        PageMonitor x = withTables();
        x.poke(0, 0, 5);
        x.data(5, 0, 0, 7, 0);
        x.poke(0, 0, 6);
        x.finish(0);
        x.poke(0, 0, 7);
        measured("a frame that changes later", x, 0, Bench.row(2, 0, 7), Bench.row(5), Bench.row(4));
    }

    /** Promise 19: "what is told of its building": two spaces built in turns don't mix. */
    private static void twoSpacesAtOnce() {
        PageMonitor x = new PageMonitor();
        x.space(0);
        x.space(19);
        for (int k = 1; k < 9; k++) {
            x.thread(k, 0, k);
            x.thread(k + 9, 19, 100 + k);
        }
        x.finish(0);
        x.thread(18, 19, 7);
        x.finish(19);
        int[][] one = new int[9][];
        int[][] other = new int[10][];
        for (int k = 1; k < 9; k++) {
            one[k - 1] = Bench.row(1, k);
            other[k - 1] = Bench.row(1, 100 + k);
        }
        one[8] = Bench.row(4);
        other[8] = Bench.row(1, 7);
        other[9] = Bench.row(4);
        measured("the one", x, 0, one);
        measured("the other", x, 19, other);
    }

    /** Promise 19: "THE MEASURE is the hash of what is told of its building": numbers of pages are not. */
    private static void pagesDoNotCount() {
        PageMonitor x = new PageMonitor();
        x.key(3, 3);
        for (int space : new int[] {0, 10}) {
            x.space(space);
            x.thread(space + (space == 0 ? 9 : 1), space, 8);
            x.table(space + 2, space, 1);
            x.data(space + (space == 0 ? 8 : 3), space, 8, 5, space / 2);
            x.finish(space);
        }
        DUE.words("spaces that are built alike", Bench.measureOf(x, 0), Bench.measureOf(x, 10));
    }

    /** Promise 19: "Word i of a finished or stopped space's measure.": it stays what it was. */
    private static void staysWhenRunAndStopped() {
        PageMonitor x = Bench.ready(Bench.LEAVE);
        int[] before = Bench.measureOf(x, 0);
        x.enter(2, 0, 0, 1);
        DUE.words("behind enter()", Bench.measureOf(x, 0), before);
        x.stop(0);
        DUE.words("of a stopped space", Bench.measureOf(x, 0), before);
        x.remove(1);
        x.remove(2);
        x.remove(3);
        DUE.words("of a stopped space without pages", Bench.measureOf(x, 0), before);
        DUE.words("the measure", before,
            Bench.hash(Bench.rows(Bench.row(1, 0), Bench.row(2, 0, 4), Bench.row(), Bench.row(4))));
    }

    /** Promise 19: "IndexOutOfBoundsException: there is no such page, or word." */
    private static void noSuchPageOrWord() {
        PageMonitor x = new PageMonitor();
        x.space(0);
        x.finish(0);
        x.space(19);
        x.finish(19);
        for (int page : Bench.outside(19)) {
            DUE.thrown("measure(" + page + ", 0)", OUTSIDE, () -> x.measure(page, 0));
            DUE.thrown("measure(" + page + ", 7)", OUTSIDE, () -> x.measure(page, 7));
        }
        for (int i : Bench.outside(7)) {
            DUE.thrown("measure(0, " + i + ")", OUTSIDE, () -> x.measure(0, i));
            DUE.thrown("measure(19, " + i + ")", OUTSIDE, () -> x.measure(19, i));
        }
        int[] due = Bench.hash(Bench.rows(Bench.row(4)));
        DUE.same("measure(0, 0)", x.measure(0, 0), due[0]);
        DUE.same("measure(19, 7)", x.measure(19, 7), due[7]);
    }

    /** Promise 19: "IllegalStateException: it is no space": pages of every other kind. */
    private static void noSpace() {
        PageMonitor x = World.make();
        for (int page : World.NO_SPACES) {
            DUE.thrown("measure(" + page + ", 0)", NOT_MEASURED, () -> x.measure(page, 0));
            DUE.thrown("measure(" + page + ", 7)", NOT_MEASURED, () -> x.measure(page, 7));
        }
        x.remove(World.BARE);
        for (int page = World.STOPPED_TABLE; page <= World.STOPPED_SPARE; page++) {
            x.remove(page);
        }
        DUE.thrown("before it is removed", null, () -> x.measure(World.STOPPED, 0));
        x.remove(World.STOPPED);
        DUE.thrown("a space that was removed", NOT_MEASURED, () -> x.measure(World.STOPPED, 0));
        x.spare(World.STOPPED, World.BUILT);
        DUE.thrown("a spare page that was a space", NOT_MEASURED, () -> x.measure(World.STOPPED, 0));
        x.key(0, 0);
        DUE.thrown("a space before key()", NOT_MEASURED, () -> x.measure(World.FINISHED, 0));
    }

    /** Promise 19: "or was not finished": built, or stopped before, also on a page that was finished once. */
    private static void notFinished() {
        PageMonitor x = World.make();
        DUE.thrown("a space that is built", NOT_MEASURED, () -> x.measure(World.BUILT, 0));
        DUE.thrown("stopped before it was finished", NOT_MEASURED, () -> x.measure(World.BARE, 7));
        x.stop(World.BUILT);
        DUE.thrown("stopped before it was finished", NOT_MEASURED, () -> x.measure(World.BUILT, 7));
        DUE.thrown("a finished one", null, () -> x.measure(World.FINISHED, 0));
        DUE.thrown("a stopped one that was finished", null, () -> x.measure(World.STOPPED, 7));
        x.key(0, 0);
        x.space(World.FINISHED);
        DUE.thrown("a space made anew", NOT_MEASURED, () -> x.measure(World.FINISHED, 0));
        x.stop(World.FINISHED);
        DUE.thrown("made anew and stopped", NOT_MEASURED, () -> x.measure(World.FINISHED, 0));
    }

    /** Promise 19: "IndexOutOfBoundsException: there is no such page, or word.", named first, if both hold. */
    private static void whichComesFirst() {
        PageMonitor x = World.make();
        for (int i : Bench.outside(7)) {
            DUE.thrown("a free page, no such word", OUTSIDE, () -> x.measure(World.FREE, i));
            DUE.thrown("a thread, no such word", OUTSIDE, () -> x.measure(World.ENTERED, i));
            DUE.thrown("a space that is built, no such word", OUTSIDE, () -> x.measure(World.BUILT, i));
            DUE.thrown("no such page, no such word", OUTSIDE, () -> x.measure(20, i));
        }
    }
}
