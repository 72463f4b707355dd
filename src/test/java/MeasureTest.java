/** Promise 19, and what is hashed: the measure, and vouchers by instructions 9, 10 and 11. */
public final class MeasureTest {
    private static final Due DUE = new Due("MeasureTest");
    private static final int LEAVE = Bench.op(0, 0, 0, 0);
    private static final int[] KEY = {7, -7, 77, -77, 777, 0, Integer.MIN_VALUE, -1};

    public static void main(String[] args) {
        promise19EmptySpace();
        promise19AllThatIsTold();
        promise19OrderCounts();
        promise19LongBuilding();
        promise19Refusals();
        promise19StaysWhenStopped();
        wordsOfTheMeasure();
        vouching();
        vouchingOverlaps();
        buildingBehindAVoucher();
        vouchingFaults();
        comparing();
        comparingFaults();
        DUE.end();
    }

    private static void measured(PageMonitor x, int space, int... words) {
        int[] want = Bench.hash(words);
        for (int i = 0; i < 8; i++) {
            DUE.same("measure(" + space + ", " + i + ")", x.measure(space, i), want[i]);
        }
    }

    private static void promise19EmptySpace() {
        PageMonitor x = new PageMonitor();
        x.space(19);
        x.finish(19);
        measured(x, 19, Bench.rows(Bench.row(4)));
    }

    private static void promise19AllThatIsTold() {
        PageMonitor x = new PageMonitor();
        x.space(3);
        x.thread(4, 3, 511);
        x.table(5, 3, 3);
        int[] words = new int[16];
        for (int i = 0; i < 16; i++) {
            words[i] = 0x12345678 * (i - 8);
            x.poke(6, i, words[i]);
        }
        x.data(6, 3, 24, 7, 6);
        x.spare(7, 3);
        x.share(3, 31, 3, 6);
        x.share(3, 30, 1, 5);
        x.thread(8, 3, 0);
        x.remove(7);
        x.poke(6, 0, 1);
        x.finish(3);
        measured(x, 3, Bench.rows(Bench.row(1, 511), Bench.row(2, 24, 7), words, Bench.row(3, 31, 3),
            Bench.row(3, 30, 1), Bench.row(1, 0), Bench.row(4)));
        x.spare(7, 3);
        measured(x, 3, Bench.rows(Bench.row(1, 511), Bench.row(2, 24, 7), words, Bench.row(3, 31, 3),
            Bench.row(3, 30, 1), Bench.row(1, 0), Bench.row(4)));
    }

    private static void promise19OrderCounts() {
        PageMonitor x = new PageMonitor();
        x.space(0);
        x.space(1);
        x.thread(2, 0, 5);
        x.thread(3, 1, 6);
        x.thread(4, 0, 6);
        x.thread(5, 1, 5);
        x.finish(1);
        x.finish(0);
        measured(x, 0, Bench.rows(Bench.row(1, 5), Bench.row(1, 6), Bench.row(4)));
        measured(x, 1, Bench.rows(Bench.row(1, 6), Bench.row(1, 5), Bench.row(4)));
    }

    /** As much as can be told of one space: four tables, fifteen pages of data, seventeen frames. */
    private static void promise19LongBuilding() {
        PageMonitor x = new PageMonitor();
        x.space(0);
        int[][] rows = new int[15 * 2 + 17 + 1][];
        int told = 0;
        for (int place = 0; place < 4; place++) {
            x.table(1 + place, 0, place);
        }
        for (int k = 0; k < 15; k++) {
            x.poke(0, k, -k);
            DUE.same("data", x.data(5 + k, 0, 31 - k, 1 + k % 7, 0), 0);
            int[] words = new int[16];
            for (int i = 0; i <= k; i++) {
                words[i] = -i;
            }
            rows[told++] = Bench.row(2, 31 - k, 1 + k % 7);
            rows[told++] = words;
        }
        for (int block = 0; block < 17; block++) {
            DUE.same("share", x.share(0, block, 1, block % 8), 0);
            rows[told++] = Bench.row(3, block, 1);
        }
        rows[told] = Bench.row(4);
        x.finish(0);
        measured(x, 0, Bench.rows(rows));
    }

    private static void promise19Refusals() {
        PageMonitor x = Bench.building();
        Class<IndexOutOfBoundsException> outside = IndexOutOfBoundsException.class;
        Class<IllegalStateException> notMeasured = IllegalStateException.class;
        for (int w : new int[] {-1, Integer.MIN_VALUE, Integer.MAX_VALUE}) {
            DUE.thrown("measure(" + w + ", 0)", outside, () -> x.measure(w, 0));
            DUE.thrown("measure(0, " + w + ")", outside, () -> x.measure(0, w));
        }
        DUE.thrown("measure(20, 0)", outside, () -> x.measure(20, 0));
        DUE.thrown("measure(0, 8)", outside, () -> x.measure(0, 8));
        DUE.thrown("of no space, no such word", outside, () -> x.measure(9, 8));
        for (int page = 0; page < 6; page++) {
            int p = page;
            DUE.thrown("measure(" + page + ", 0)", notMeasured, () -> x.measure(p, 0));
        }
        x.finish(0);
        for (int page = 1; page < 6; page++) {
            int p = page;
            DUE.thrown("measure(" + page + ", 7)", notMeasured, () -> x.measure(p, 7));
        }
        x.space(8);
        x.stop(8);
        DUE.thrown("stopped before it was finished", notMeasured, () -> x.measure(8, 0));
    }

    private static void promise19StaysWhenStopped() {
        PageMonitor x = Bench.ready(LEAVE);
        int[] before = Bench.measureOf(x, 0);
        x.enter(2, 0, 0, 1);
        x.stop(0);
        x.remove(1);
        x.remove(2);
        x.remove(3);
        for (int i = 0; i < 8; i++) {
            DUE.same("measure of a stopped space", x.measure(0, i), before[i]);
        }
        x.remove(0);
        DUE.thrown("of a space that was removed", IllegalStateException.class, () -> x.measure(0, 0));
        PageMonitor y = Bench.ready(LEAVE);
        y.key(0, 0);
        DUE.thrown("behind key", IllegalStateException.class, () -> y.measure(0, 0));
        y.space(0);
        y.stop(0);
        DUE.thrown("a space made anew, stopped", IllegalStateException.class, () -> y.measure(0, 0));
    }

    private static void wordsOfTheMeasure() {
        for (int i : new int[] {0, 1, 2, 3, 4, 5, 6, 7, 8, 13, -1, -8}) {
            PageMonitor x = Bench.ready(Bench.op(11, 0, 0, i), LEAVE);
            DUE.same("enter", x.enter(2, 0, 0, 2), 0);
            DUE.same("op 11 with i " + i, x.result(), x.measure(0, i & 7));
        }
    }

    /** Vouches from ra to rb: data to read at block 1, frame 1 to read at 2, frame 2 to write at 3. */
    private static PageMonitor voucher(int[] key) {
        PageMonitor x = new PageMonitor();
        for (int i = 0; i < 8; i++) {
            x.key(i, key[i]);
        }
        Bench.fill(x, 7, Bench.op(9, 0, 1, 0), LEAVE);
        x.space(0);
        x.table(1, 0, 0);
        x.thread(2, 0, 0);
        x.data(3, 0, 0, 4, 7);
        Bench.fill(x, 0, 21, 22, 23, 24, 25, 26, 27, 28, 29, 30, 31, 32, 33, 34, 35, 36);
        x.data(4, 0, 1, 1, 0);
        x.share(0, 2, 1, 1);
        x.share(0, 3, 3, 2);
        x.data(5, 0, 4, 2, 0);
        x.finish(0);
        return x;
    }

    private static void vouching() {
        PageMonitor x = voucher(KEY);
        for (int from = 16; from <= 24; from++) {
            int[] said = new int[8];
            for (int k = 0; k < 8; k++) {
                said[k] = 5 + from + k;
            }
            DUE.same("enter", x.enter(2, from, 52, 2), 0);
            DUE.same("it goes on", x.result(), from);
            int[] want = Bench.voucher(KEY, Bench.measureOf(x, 0), said);
            for (int k = 0; k < 8; k++) {
                DUE.same("voucher word " + k, x.peek(2, 4 + k), want[k]);
            }
            DUE.same("the word before", x.peek(2, 3), 0);
            DUE.same("the word behind", x.peek(2, 12), 0);
        }
        PageMonitor y = voucher(new int[8]);
        y.poke(1, 0, -5);
        DUE.same("words of data and frame", y.enter(2, 25, 48, 2), 0);
        int[] want = Bench.voucher(new int[8], Bench.measureOf(y, 0), new int[] {30, 31, 32, 33, 34, 35, 36, -5});
        for (int k = 0; k < 8; k++) {
            DUE.same("voucher word " + k, y.peek(2, k), want[k]);
        }
    }

    private static void vouchingOverlaps() {
        PageMonitor x = voucher(KEY);
        for (int i = 0; i < 16; i++) {
            x.poke(2, i, i * i);
        }
        DUE.same("from 50 to 53", x.enter(2, 50, 53, 2), 0);
        int[] want = Bench.voucher(KEY, Bench.measureOf(x, 0), new int[] {4, 9, 16, 25, 36, 49, 64, 81});
        for (int k = 0; k < 8; k++) {
            DUE.same("voucher word " + k, x.peek(2, 5 + k), want[k]);
        }
        DUE.same("the word before", x.peek(2, 4), 16);
        DUE.same("the word behind", x.peek(2, 13), 169);
    }

    /** What a voucher leaves behind in the object's rows is not told of the next space. */
    private static void buildingBehindAVoucher() {
        PageMonitor x = voucher(KEY);
        DUE.same("enter", x.enter(2, 16, 48, 2), 0);
        x.space(10);
        x.thread(11, 10, 7);
        DUE.same("enter", x.enter(2, 16, 48, 2), 0);
        x.finish(10);
        measured(x, 10, Bench.rows(Bench.row(1, 7), Bench.row(4)));
    }

    private static void vouchingFaults() {
        PageMonitor x = voucher(KEY);
        x.poke(2, 9, 9);
        int[][] fromToFault = {
            {16, 57, 0}, {41, 48, 0}, {56, 72, 0}, {57, 48, 2}, {9, 48, 2}, {15, 48, 2}, {72, 48, 2},
            {-1, 48, 2}, {-8, 48, 2}, {505, 48, 2}, {512, 48, 2}, {Integer.MAX_VALUE, 48, 2},
            {Integer.MIN_VALUE, 48, 2}, {-7, 9, 2}, {16, 47, 3}, {16, 41, 3}, {16, 73, 3}, {16, 16, 3},
            {16, 32, 3}, {16, -1, 3}, {16, 505, 3}, {16, 512, 3}, {16, Integer.MAX_VALUE, 3},
            {16, Integer.MIN_VALUE, 3},
        };
        for (int[] w : fromToFault) {
            Bench.fill(x, 2);
            int answer = x.enter(2, w[0], w[1], 2);
            DUE.same("vouch from " + w[0] + " to " + w[1], answer, w[2] == 0 ? 0 : 9);
            DUE.same("result from " + w[0] + " to " + w[1], x.result(), w[2] == 0 ? w[0] : w[2]);
        }
        PageMonitor y = voucher(KEY);
        y.enter(2, 16, 47, 2);
        y.enter(2, 16, 73, 2);
        y.enter(2, 57, 48, 2);
        for (int i = 0; i < 16; i++) {
            DUE.same("nothing of it is done", y.peek(2, i), 0);
        }
    }

    /** Compares what stands from rb on: frames 1 and 2 to read at blocks 2 and 3, nothing beside. */
    private static PageMonitor comparer() {
        PageMonitor x = new PageMonitor();
        for (int i = 0; i < 8; i++) {
            x.key(i, KEY[i]);
        }
        Bench.fill(x, 7, Bench.op(10, 0, 1, 0), LEAVE);
        x.space(0);
        x.table(1, 0, 0);
        x.thread(2, 0, 0);
        x.data(3, 0, 0, 4, 7);
        x.share(0, 2, 1, 1);
        x.share(0, 3, 3, 2);
        x.data(4, 0, 4, 2, 0);
        x.finish(0);
        return x;
    }

    private static void pokeAt(PageMonitor x, int address, int value) {
        x.poke(1 + (address - 32) / 16, address % 16, value);
    }

    private static void comparing() {
        int[] measure = {3, 1, 4, 1, 5, 9, 2, 6};
        int[] said = {-1, -2, -3, -4, 5, 6, 7, 8};
        int[] want = Bench.voucher(KEY, measure, said);
        for (int from = 32; from <= 40; from += 4) {
            PageMonitor x = comparer();
            for (int k = 0; k < 8; k++) {
                pokeAt(x, from + k, measure[k]);
                pokeAt(x, from + 8 + k, said[k]);
                pokeAt(x, from + 16 + k, want[k]);
            }
            DUE.same("enter", x.enter(2, 99, from, 2), 0);
            DUE.same("it is the voucher", x.result(), 1);
            for (int k = 0; k < 24; k++) {
                int frame = 1 + (from + k - 32) / 16;
                int i = (from + k) % 16;
                int was = x.poke(frame, i, x.peek(frame, i) ^ 1 << k);
                DUE.same("enter", x.enter(2, 99, from, 2), 0);
                DUE.same("another word " + k, x.result(), 0);
                x.poke(frame, i, was);
            }
            DUE.same("enter", x.enter(2, 99, from, 2), 0);
            DUE.same("it is the voucher again", x.result(), 1);
            for (int k = 0; k < 24; k++) {
                int value = k < 8 ? measure[k] : k < 16 ? said[k - 8] : want[k - 16];
                DUE.same("words stay", x.peek(1 + (from + k - 32) / 16, (from + k) % 16), value);
            }
        }
    }

    private static void comparingFaults() {
        PageMonitor x = comparer();
        for (int from : new int[] {31, 41, 16, 8, -1, -16, 24, 48, 64, 489, 512, Integer.MAX_VALUE, Integer.MIN_VALUE}) {
            DUE.same("compare from " + from, x.enter(2, 0, from, 2), 9);
            DUE.same("its fault", x.result(), 2);
            DUE.same("its steps", x.steps(), 1);
        }
        DUE.same("compare from 40", x.enter(2, 9, 40, 2), 0);
        DUE.same("zeros are no voucher", x.result(), 0);
    }
}
