/**
 * Instructions 9, 10 and 11 (promises 14 and 15 by the terms), against the Java library's SHA-256. Each
 * comment names the promise and, between quotes, the words of the document that are tested.
 */
public final class VoucherTest {
    private static final Due DUE = new Due("VoucherTest");
    private static final int LOWEST = Bench.LOWEST;
    private static final int HIGHEST = Bench.HIGHEST;
    private static final int LEAVE = Bench.LEAVE;
    private static final int[] KEY = {7, -7, 77, -77, 777, 0, LOWEST, -1};

    public static void main(String[] args) {
        vouching();
        vouchingForDataAndFrame();
        vouchingInEveryRegister();
        vouchingWithEveryKey();
        vouchingOverItself();
        vouchingOverTheCode();
        vouchingAtTheEnds();
        vouchingReadFaults();
        vouchingWriteFaults();
        vouchingReadFaultsFirst();
        vouchingDoesNothingOnAFault();
        buildingBehindAVoucher();
        comparing();
        comparingInEveryRegister();
        comparingAtTheEnds();
        comparingFaults();
        comparingAnotherSpace();
        comparingBehindAnotherKey();
        wordsOfTheMeasure();
        DUE.end();
    }

    private static void setKey(PageMonitor x, int... key) {
        for (int i = 0; i < 8; i++) {
            x.key(i, key[i]);
        }
    }

    private static int[] from(int first) {
        int[] words = new int[8];
        for (int k = 0; k < 8; k++) {
            words[k] = first + k;
        }
        return words;
    }

    /**
     * Vouches from ra to rb: data to read (21 to 36) at block 1, frame 1 to read at 2, frame 2 to write
     * at 3, data to write but not to read at 4.
     */
    private static PageMonitor voucher(int... key) {
        PageMonitor x = new PageMonitor();
        setKey(x, key);
        Bench.fill(x, 7, Bench.op(9, 0, 1, 0), LEAVE);
        x.space(0);
        x.table(1, 0, 0);
        x.thread(2, 0, 0);
        x.data(3, 0, 0, 4, 7);
        Bench.fill(x, 0, 21, 22, 23, 24, 25, 26, 27, 28, 29, 30, 31, 32, 33, 34, 35, 36);
        x.data(4, 0, 1, 1, 0);
        x.share(0, 2, 1, 1);
        x.share(0, 3, 3, 2);
        x.data(5, 0, 4, 2, 0);
        x.finish(0);
        return x;
    }

    /** Promise 14: "9 the voucher of its space's measure for the eight words from ra on goes to eight words". */
    private static void vouching() {
        PageMonitor x = voucher(KEY);
        for (int from = 16; from <= 24; from++) {
            DUE.ran(x, "vouch from " + from, x.enter(2, from, 52, 2), 0, from, 2);
            DUE.words("the voucher from " + from, Bench.eight(x, 2, 4),
                Bench.voucher(KEY, Bench.measureOf(x, 0), from(from + 5)));
            DUE.same("the word before", x.peek(2, 3), 0);
            DUE.same("the word behind", x.peek(2, 12), 0);
        }
    }

    /** Promise 14: "for the eight words from ra on", some of them of data and some of a frame. */
    private static void vouchingForDataAndFrame() {
        PageMonitor x = voucher(new int[8]);
        x.poke(1, 0, -5);
        DUE.ran(x, "seven words of data, one of a frame", x.enter(2, 25, 48, 2), 0, 25, 2);
        DUE.words("the voucher", Bench.eight(x, 2, 0), Bench.voucher(new int[8], Bench.measureOf(x, 0),
            new int[] {30, 31, 32, 33, 34, 35, 36, -5}));
        PageMonitor y = voucher(KEY);
        DUE.ran(y, "to a frame and data behind it", y.enter(2, 16, 57, 2), 0, 16, 2);
        int[] due = Bench.voucher(KEY, Bench.measureOf(y, 0), from(21));
        for (int k = 0; k < 7; k++) {
            DUE.same("voucher word " + k, y.peek(2, 9 + k), due[k]);
        }
    }

    /** Promise 14: "from ra on goes to eight words from rb on". Every a and b, also one register twice. */
    private static void vouchingInEveryRegister() {
        for (int a = 0; a < 4; a++) {
            for (int b = 0; b < 4; b++) {
                PageMonitor x = Bench.building(Bench.op(1, 0, 0, 16), Bench.op(1, 1, 0, 24), Bench.op(1, 2, 0, 32),
                    Bench.op(1, 3, 0, 40), Bench.op(9, a, b, -1), Bench.op(0, a, 0, 0));
                x.share(0, 1, 3, 1);
                x.share(0, 2, 3, 2);
                x.finish(0);
                int[] said = from(100 * a);
                for (int k = 0; k < 8; k++) {
                    x.poke(1 + a / 2, a % 2 * 8 + k, said[k]);
                }
                DUE.ran(x, "a " + a + ", b " + b, x.enter(2, 0, 0, 9), 0, 16 + 8 * a, 6);
                DUE.words("a " + a + ", b " + b, Bench.eight(x, 1 + b / 2, b % 2 * 8),
                    Bench.voucher(new int[8], Bench.measureOf(x, 0), said));
                if (a != b) {
                    DUE.words("what it was for", Bench.eight(x, 1 + a / 2, a % 2 * 8), said);
                }
            }
        }
    }

    /**
     * Promises 2 and 14: "A VOUCHER of a measure for eight words is the hash of the key (eight words), the
     * measure, those words, and eight words 0."
     */
    private static void vouchingWithEveryKey() {
        int[][] keys = {
            new int[8], {-1, -1, -1, -1, -1, -1, -1, -1}, {1, 0, 0, 0, 0, 0, 0, 0}, {0, 0, 0, 0, 0, 0, 0, 1},
            {LOWEST, HIGHEST, LOWEST, HIGHEST, LOWEST, HIGHEST, LOWEST, HIGHEST}, KEY,
        };
        for (int[] key : keys) {
            PageMonitor x = voucher(key);
            Bench.fill(x, 2, -1, LOWEST, HIGHEST, 1 << 24, 255, 0, -256, 65535);
            DUE.ran(x, "vouch", x.enter(2, 48, 56, 2), 0, 48, 2);
            DUE.words("the voucher", Bench.eight(x, 2, 8), Bench.voucher(key, Bench.measureOf(x, 0),
                new int[] {-1, LOWEST, HIGHEST, 1 << 24, 255, 0, -256, 65535}));
        }
    }

    /** Promise 14: "all that are read are looked at first": words that are read and written, too. */
    private static void vouchingOverItself() {
        for (int shift = -2; shift <= 3; shift++) {
            PageMonitor x = voucher(KEY);
            for (int i = 0; i < 16; i++) {
                x.poke(2, i, i + 300);
            }
            int to = 51 + shift;
            DUE.ran(x, "from 51 to " + to, x.enter(2, 51, to, 2), 0, 51, 2);
            DUE.words("the voucher", Bench.eight(x, 2, to - 48),
                Bench.voucher(KEY, Bench.measureOf(x, 0), from(303)));
            DUE.same("the word before", x.peek(2, to - 49), to - 49 + 300);
            DUE.same("the word behind", x.peek(2, to - 40), to - 40 + 300);
        }
        PageMonitor y = Bench.building(Bench.op(9, 0, 1, 0), LEAVE);
        y.share(0, 1, 3, 1);
        y.share(0, 2, 3, 1);
        y.finish(0);
        for (int i = 0; i < 16; i++) {
            y.poke(1, i, i);
        }
        DUE.ran(y, "one frame at two blocks", y.enter(2, 16, 36, 2), 0, 16, 2);
        DUE.words("the voucher", Bench.eight(y, 1, 4), Bench.voucher(new int[8], Bench.measureOf(y, 0), from(0)));
    }

    /** Promise 14: "goes to eight words from rb on", also when they are instructions that come next. */
    private static void vouchingOverTheCode() {
        PageMonitor x = Bench.building();
        Bench.data(x, 4, 0, 1, 7, Bench.op(9, 0, 1, 0), LEAVE, LEAVE, LEAVE, LEAVE, LEAVE, LEAVE, LEAVE, LEAVE,
            Bench.op(6, 0, 2, 17), LEAVE);
        x.thread(5, 0, 16);
        x.thread(6, 0, 25);
        x.finish(0);
        DUE.ran(x, "over what comes next", x.enter(5, 17, 17, 1), 8, 0, 1);
        DUE.ran(x, "its first word", x.enter(6, 0, 0, 9), 0,
            Bench.voucher(new int[8], Bench.measureOf(x, 0), new int[8])[0], 2);
    }

    /** Frames at the first block (0) and the last (31), both to read and write; code at block 8. */
    private static PageMonitor atTheEnds(int instruction) {
        PageMonitor x = new PageMonitor();
        x.space(0);
        x.table(1, 0, 0);
        x.table(2, 0, 1);
        x.table(3, 0, 3);
        x.thread(4, 0, 128);
        Bench.data(x, 5, 0, 8, 4, instruction, LEAVE);
        x.share(0, 0, 3, 0);
        x.share(0, 30, 3, 5);
        x.share(0, 31, 3, 6);
        x.finish(0);
        return x;
    }

    /** Promise 14: "Words must be at addresses": the first eight, the last eight, and one beyond. */
    private static void vouchingAtTheEnds() {
        PageMonitor x = atTheEnds(Bench.op(9, 0, 1, 0));
        for (int i = 0; i < 16; i++) {
            x.poke(6, i, 60 + i);
        }
        DUE.ran(x, "from 504 to 0", x.enter(4, 504, 0, 9), 0, 504, 2);
        int[] measure = Bench.measureOf(x, 0);
        int[] first = Bench.voucher(new int[8], measure, from(68));
        DUE.words("the voucher", Bench.eight(x, 0, 0), first);
        DUE.ran(x, "from 0 to 504", x.enter(4, 0, 504, 9), 0, 0, 2);
        DUE.words("the voucher", Bench.eight(x, 6, 8), Bench.voucher(new int[8], measure, first));
        DUE.ran(x, "from 505", x.enter(4, 505, 0, 9), 9, 2, 1);
        DUE.ran(x, "from -1", x.enter(4, -1, 0, 9), 9, 2, 1);
        DUE.ran(x, "from -8", x.enter(4, -8, 0, 9), 9, 2, 1);
        DUE.ran(x, "to 505", x.enter(4, 0, 505, 9), 9, 3, 1);
        DUE.ran(x, "to 511", x.enter(4, 0, 511, 9), 9, 3, 1);
        DUE.ran(x, "to -1", x.enter(4, 0, -1, 9), 9, 3, 1);
        DUE.ran(x, "to -7", x.enter(4, 0, -7, 9), 9, 3, 1);
    }

    private static void vouchFault(int from, int to, int fault) {
        PageMonitor x = voucher(KEY);
        DUE.ran(x, "vouch from " + from + " to " + to, x.enter(2, from, to, 2), 9, fault, 1);
        DUE.words("nothing of it is done", Bench.frame(x, 2), new int[16]);
    }

    /** Promise 14: "with the right 1 to read, else fault 2", of the first, the last or all of eight. */
    private static void vouchingReadFaults() {
        int[] wrong = {
            57, 63, 64, 72, 0, 8, 9, 15, 505, 511, 512, -1, -7, -8, HIGHEST, HIGHEST - 7, HIGHEST - 6, LOWEST, 80, 128,
        };
        for (int from : wrong) {
            vouchFault(from, 48, 2);
        }
        for (int from : new int[] {16, 41, 56}) {
            PageMonitor x = voucher(KEY);
            DUE.ran(x, "vouch from " + from, x.enter(2, from, 48, 2), 0, from, 2);
        }
    }

    /** Promise 14: "2 to write, else fault 3", of the first, the last or all of eight. */
    private static void vouchingWriteFaults() {
        int[] wrong = {
            47, 41, 73, 79, 80, 16, 32, 0, 8, 505, 511, 512, -1, -7, -8, HIGHEST, HIGHEST - 7, HIGHEST - 6, LOWEST, 128,
        };
        for (int to : wrong) {
            vouchFault(16, to, 3);
        }
        for (int to : new int[] {48, 56, 57, 63, 64, 72}) {
            PageMonitor x = voucher(KEY);
            DUE.ran(x, "vouch to " + to, x.enter(2, 16, to, 2), 0, 16, 2);
        }
    }

    /** Promise 14: "of 9 all that are read are looked at first, then all that are written". */
    private static void vouchingReadFaultsFirst() {
        for (int from : new int[] {57, 9, -7, 505, LOWEST}) {
            for (int to : new int[] {9, 41, 73, -1, 512, HIGHEST}) {
                vouchFault(from, to, 2);
            }
        }
    }

    /** Promise 14: "nothing of the instruction is done": no word, though some may be written. */
    private static void vouchingDoesNothingOnAFault() {
        PageMonitor x = Bench.building(Bench.op(9, 0, 1, 0), LEAVE);
        x.share(0, 1, 3, 1);
        x.share(0, 2, 1, 2);
        x.finish(0);
        for (int i = 0; i < 16; i++) {
            x.poke(1, i, i);
            x.poke(2, i, i);
        }
        int[] before = Bench.frame(x, 1);
        for (int to = 25; to <= 31; to++) {
            DUE.ran(x, "to " + to, x.enter(2, 16, to, 9), 9, 3, 1);
            DUE.words("the frame to write", Bench.frame(x, 1), before);
        }
        DUE.words("the frame to read", Bench.frame(x, 2), before);
        DUE.ran(x, "to 24", x.enter(2, 16, 24, 9), 0, 16, 2);
    }

    /** Promises 14 and 19: "THE MEASURE is the hash of what is told of its building", not of vouchers. */
    private static void buildingBehindAVoucher() {
        PageMonitor x = voucher(KEY);
        DUE.same("enter", x.enter(2, 16, 48, 2), 0);
        x.space(10);
        x.thread(11, 10, 7);
        DUE.same("enter", x.enter(2, 16, 48, 2), 0);
        x.finish(10);
        DUE.words("the measure", Bench.measureOf(x, 10), Bench.hash(Bench.rows(Bench.row(1, 7), Bench.row(4))));
    }

    /** Compares what stands from rb on: frames 1 and 2 to read at blocks 2 and 3, nothing beside. */
    private static PageMonitor comparer() {
        PageMonitor x = new PageMonitor();
        setKey(x, KEY);
        Bench.fill(x, 7, Bench.op(10, 0, 1, 0), LEAVE);
        x.space(0);
        x.table(1, 0, 0);
        x.thread(2, 0, 0);
        x.data(3, 0, 0, 4, 7);
        x.share(0, 2, 1, 1);
        x.share(0, 3, 3, 2);
        x.data(4, 0, 4, 2, 0);
        x.finish(0);
        return x;
    }

    private static void pokeAt(PageMonitor x, int address, int... words) {
        for (int k = 0; k < words.length; k++) {
            x.poke((address + k - 32) / 16 + 1, (address + k) % 16, words[k]);
        }
    }

    private static int[] wordsAt(PageMonitor x, int address) {
        int[] words = new int[8];
        for (int k = 0; k < 8; k++) {
            words[k] = x.peek((address + k - 32) / 16 + 1, (address + k) % 16);
        }
        return words;
    }

    /**
     * Promise 14: "10 ra is 1 if the eight words from rb + 16 on are the voucher of the measure in the eight
     * words from rb on for the eight words from rb + 8 on, else 0."
     */
    private static void comparing() {
        int[] measure = {3, 1, 4, 1, 5, 9, 2, 6};
        int[] said = {-1, -2, -3, -4, 5, 6, 7, 8};
        int[] due = Bench.voucher(KEY, measure, said);
        for (int from = 32; from <= 40; from += 4) {
            PageMonitor x = comparer();
            pokeAt(x, from, measure);
            pokeAt(x, from + 8, said);
            pokeAt(x, from + 16, due);
            DUE.ran(x, "it is the voucher", x.enter(2, 99, from, 2), 0, 1, 2);
            for (int k = 0; k < 24; k++) {
                int frame = 1 + (from + k - 32) / 16;
                int i = (from + k) % 16;
                int was = x.poke(frame, i, x.peek(frame, i) ^ 1 << k);
                DUE.ran(x, "word " + k + " is another", x.enter(2, 99, from, 2), 0, 0, 2);
                x.poke(frame, i, was);
            }
            DUE.ran(x, "it is the voucher again", x.enter(2, 99, from, 2), 0, 1, 2);
            DUE.words("the measure stays", wordsAt(x, from), measure);
            DUE.words("the words stay", wordsAt(x, from + 8), said);
            DUE.words("the voucher stays", wordsAt(x, from + 16), due);
        }
    }

    /** Promise 14: "ra is 1 if the eight words from rb + 16 on". Every a and b, also one register twice. */
    private static void comparingInEveryRegister() {
        int[] due = Bench.voucher(new int[8], from(1), from(11));
        for (int a = 0; a < 4; a++) {
            for (int b = 0; b < 4; b++) {
                int[] code = new int[16];
                for (int r = 0; r < 4; r++) {
                    code[r] = Bench.op(1, r, 0, r == b ? 32 : 500);
                }
                code[4] = Bench.op(10, a, b, -1);
                code[5] = Bench.op(0, a, 0, 0);
                PageMonitor x = Bench.building(code);
                x.share(0, 2, 1, 1);
                x.share(0, 3, 1, 2);
                x.finish(0);
                pokeAt(x, 32, from(1));
                pokeAt(x, 40, from(11));
                pokeAt(x, 48, due);
                DUE.ran(x, "a " + a + ", b " + b, x.enter(2, 0, 0, 9), 0, 1, 6);
                x.poke(2, 7, due[7] + 1);
                DUE.ran(x, "a " + a + ", b " + b + ", not the voucher", x.enter(2, 0, 0, 9), 0, 0, 6);
            }
        }
    }

    /** Promise 14: "Words must be at addresses": the last twenty-four of them, and one beyond. */
    private static void comparingAtTheEnds() {
        PageMonitor x = atTheEnds(Bench.op(10, 0, 1, 0));
        int[] due = Bench.voucher(new int[8], from(1), from(11));
        for (int k = 0; k < 8; k++) {
            x.poke(5, 8 + k, 1 + k);
            x.poke(6, k, 11 + k);
            x.poke(6, 8 + k, due[k]);
        }
        DUE.ran(x, "from 488", x.enter(4, 9, 488, 9), 0, 1, 2);
        DUE.ran(x, "from 487", x.enter(4, 9, 487, 9), 0, 0, 2);
        DUE.ran(x, "from 489", x.enter(4, 9, 489, 9), 9, 2, 1);
        DUE.ran(x, "from 496", x.enter(4, 9, 496, 9), 9, 2, 1);
        DUE.ran(x, "from 504", x.enter(4, 9, 504, 9), 9, 2, 1);
        DUE.ran(x, "from 0, where the third eight are not", x.enter(4, 9, 0, 9), 9, 2, 1);
        DUE.ran(x, "from -1", x.enter(4, 9, -1, 9), 9, 2, 1);
        DUE.ran(x, "from -16", x.enter(4, 9, -16, 9), 9, 2, 1);
    }

    /** Promise 14: "with the right 1 to read, else fault 2", of any of the twenty-four. */
    private static void comparingFaults() {
        PageMonitor x = comparer();
        int[] wrong = {
            31, 41, 16, 8, -1, -16, -24, 24, 48, 56, 57, 64, 489, 512, HIGHEST, HIGHEST - 8, HIGHEST - 16, HIGHEST - 23,
            LOWEST,
        };
        for (int from : wrong) {
            DUE.ran(x, "compare from " + from, x.enter(2, 0, from, 2), 9, 2, 1);
            DUE.same("it is not entered", x.told(2, 2), 0);
        }
        DUE.ran(x, "zeros are no voucher", x.enter(2, 9, 40, 2), 0, 0, 2);
    }

    /** Promise 14: "are the voucher of the measure in the eight words from rb on": of any space's measure. */
    private static void comparingAnotherSpace() {
        PageMonitor x = comparer();
        x.space(10);
        x.table(11, 10, 0);
        Bench.data(x, 12, 10, 0, 4, Bench.op(9, 0, 1, 0), LEAVE);
        x.share(10, 1, 3, 1);
        x.share(10, 2, 3, 2);
        x.thread(13, 10, 0);
        x.finish(10);
        pokeAt(x, 32, Bench.measureOf(x, 10));
        pokeAt(x, 40, from(5));
        DUE.ran(x, "the other vouches", x.enter(13, 24, 32, 9), 0, 24, 2);
        DUE.ran(x, "it is its voucher", x.enter(2, 0, 32, 9), 0, 1, 2);
        pokeAt(x, 32, Bench.measureOf(x, 0));
        DUE.ran(x, "it isn't this space's", x.enter(2, 0, 32, 9), 0, 0, 2);
    }

    /** Promises 2 and 14: "is the hash of the key (eight words)": a voucher of another key is none. */
    private static void comparingBehindAnotherKey() {
        for (int i = 0; i < 8; i++) {
            PageMonitor x = comparer();
            pokeAt(x, 48, Bench.voucher(KEY, new int[8], new int[8]));
            DUE.ran(x, "the voucher", x.enter(2, 0, 32, 9), 0, 1, 2);
            x.key(i, KEY[i] + 1);
            Bench.fill(x, 7, Bench.op(10, 0, 1, 0), LEAVE);
            x.space(0);
            x.table(1, 0, 0);
            x.thread(2, 0, 0);
            x.data(3, 0, 0, 4, 7);
            x.share(0, 2, 1, 1);
            x.share(0, 3, 3, 2);
            x.finish(0);
            DUE.ran(x, "not with another key word " + i, x.enter(2, 0, 32, 9), 0, 0, 2);
        }
    }

    /** Promise 14: "11 ra is word i & 7 of its space's measure." Every word, and i beyond its lowest bits. */
    private static void wordsOfTheMeasure() {
        for (int i : new int[] {0, 1, 2, 3, 4, 5, 6, 7, 8, 13, -1, -8, 8388607, -8388608}) {
            for (int a = 0; a < 4; a++) {
                PageMonitor x = Bench.ready(Bench.op(11, a, 3 - a, i), Bench.op(0, a, 0, 0));
                DUE.ran(x, "11 with i " + i, x.enter(2, 0, 0, 2), 0, x.measure(0, i & 7), 2);
            }
        }
        PageMonitor y = Bench.building(Bench.op(11, 0, 0, 3), LEAVE);
        y.space(10);
        y.finish(10);
        y.finish(0);
        int[] told = Bench.rows(Bench.row(1, 0), Bench.row(2, 0, 4), Bench.row(Bench.op(11, 0, 0, 3), LEAVE),
            Bench.row(4));
        DUE.ran(y, "its own space's measure", y.enter(2, 0, 0, 2), 0, Bench.hash(told)[3], 2);
    }
}
