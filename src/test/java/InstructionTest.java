/**
 * What the terms say of a thread's instructions and faults (promises 14 to 17), but for those of the
 * voucher, which are in VoucherTest. Each comment names the promise and, between quotes, the words of
 * the document that are tested.
 */
public final class InstructionTest {
    private static final Due DUE = new Due("InstructionTest");
    private static final int LOWEST = Bench.LOWEST;
    private static final int HIGHEST = Bench.HIGHEST;
    private static final int LEAVE = Bench.LEAVE;
    private static final int LEAST_I = -8388608;
    private static final int MOST_I = 8388607;

    public static void main(String[] args) {
        fields();
        fieldsThatAreNotUsed();
        placeWithoutAWord();
        placeBehindTheLast();
        leaves();
        immediates();
        arithmeticInEveryRegister();
        sumsWrapAround();
        differencesWrapAround();
        productsWrapAround();
        bits();
        oneRegisterTwice();
        loads();
        loadsOfSums();
        saves();
        savedWordsAreDone();
        jumps();
        jumpsOutside();
        jumpsOnAnythingButZero();
        spareBecomesData();
        spareBecomesDataOfZeros();
        spareGetsRights();
        firstAndLastSpareAndBlock();
        spareIsRefused();
        spareWithoutRights();
        dataBecomesSpare();
        noDataThere();
        firstAndLastDataPage();
        spareAndDataAgain();
        codeThatGoesAway();
        unknownInstructions();
        registersAreLost();
        nothingOfTheInstruction();
        whatWasDoneBeforeStays();
        DUE.end();
    }

    /**
     * All four registers behind one instruction, with a, b, c and d in them before: four threads do the
     * same and leave with one register each. Data with the words 500 to 515 to read and write is at 16.
     */
    private static int[] registersAfter(int instruction, int a, int b, int c, int d) {
        int[] code = new int[16];
        for (int k = 0; k < 4; k++) {
            code[4 * k] = Bench.op(1, 2, 0, c);
            code[4 * k + 1] = Bench.op(1, 3, 0, d);
            code[4 * k + 2] = instruction;
            code[4 * k + 3] = Bench.op(0, k, 0, 0);
        }
        PageMonitor x = Bench.building(code);
        int[] words = new int[16];
        for (int i = 0; i < 16; i++) {
            words[i] = 500 + i;
        }
        Bench.data(x, 4, 0, 1, 3, words);
        int[] threads = {2, 5, 6, 7};
        for (int k = 1; k < 4; k++) {
            x.thread(threads[k], 0, 4 * k);
        }
        x.finish(0);
        int[] answers = new int[4];
        for (int k = 0; k < 4; k++) {
            DUE.same("enter", x.enter(threads[k], a, b, 4), 0);
            answers[k] = x.result();
        }
        return answers;
    }

    /**
     * Promise 14: "A THREAD runs instructions, with registers 0 to 3"; "tells op w & 15, a w >> 4 & 3,
     * b w >> 6 & 3, i w >> 8". Every a and b.
     */
    private static void fields() {
        for (int a = 0; a < 4; a++) {
            for (int b = 0; b < 4; b++) {
                int[] want = {20, 17, 22, 29};
                want[a] = 500 + want[b] - 16;
                DUE.words("6 with a " + a + ", b " + b, registersAfter(6 | a << 4 | b << 6, 20, 17, 22, 29), want);
                int[] more = {20, 17, 22, 29};
                more[a] = 500 + more[b] + 1 - 16;
                DUE.words("6 with a " + a + ", b " + b + ", i 1",
                    registersAfter(6 | a << 4 | b << 6 | 1 << 8, 20, 17, 22, 29), more);
            }
        }
    }

    /** Promise 14: "tells op w & 15, a w >> 4 & 3, b w >> 6 & 3, i w >> 8": what an op has no use for. */
    private static void fieldsThatAreNotUsed() {
        for (int i : new int[] {0, -1, MOST_I, LEAST_I}) {
            for (int b = 0; b < 4; b++) {
                PageMonitor x = Bench.ready(Bench.op(0, 1, b, i));
                DUE.ran(x, "0 with b " + b + ", i " + i, x.enter(2, 7, 8, 9), 0, 8, 1);
                DUE.words("1 with b " + b, registersAfter(Bench.op(1, 2, b, i), 1, 2, 3, 4), new int[] {1, 2, i, 4});
                DUE.words("8 with b " + b, registersAfter(Bench.op(8, 0, b, i), 0, 2, 3, 4), new int[] {0, 2, 3, 4});
            }
            DUE.words("2 with i " + i, registersAfter(Bench.op(2, 0, 3, i), 1, 2, 3, 4), new int[] {5, 2, 3, 4});
        }
    }

    /** Promise 14: "The word w there (it must be there, with the right 4, else fault 1)". */
    private static void placeWithoutAWord() {
        PageMonitor x = Bench.building(Bench.op(1, 1, 0, 1));
        x.thread(4, 0, 16);
        x.thread(5, 0, 128);
        x.data(6, 0, 2, 3, 0);
        x.thread(7, 0, 32);
        x.share(0, 3, 3, 0);
        x.thread(8, 0, 48);
        x.data(9, 0, 4, 2, 0);
        x.thread(10, 0, 64);
        x.thread(11, 0, 511);
        x.finish(0);
        DUE.ran(x, "where the entry is empty", x.enter(4, 0, 0, 9), 9, 1, 1);
        DUE.ran(x, "where no table is", x.enter(5, 0, 0, 9), 9, 1, 1);
        DUE.ran(x, "data with rights 3", x.enter(7, 0, 0, 9), 9, 1, 1);
        DUE.ran(x, "a frame with rights 3", x.enter(8, 0, 0, 9), 9, 1, 1);
        DUE.ran(x, "data with rights 2", x.enter(10, 0, 0, 9), 9, 1, 1);
        DUE.ran(x, "the last address", x.enter(11, 0, 0, 9), 9, 1, 1);
        for (int thread : new int[] {4, 5, 7, 8, 10, 11}) {
            DUE.same("one that faulted is not entered", x.told(thread, 2), 0);
        }
    }

    /** Promise 14: "the place goes on by 1 first", into the next block, or to where nothing is. */
    private static void placeBehindTheLast() {
        int[] ends = new int[16];
        ends[15] = Bench.op(1, 0, 0, 3);
        PageMonitor x = Bench.building(ends);
        x.table(4, 0, 3);
        Bench.data(x, 5, 0, 1, 4, Bench.op(2, 0, 1, 0), LEAVE);
        Bench.data(x, 6, 0, 3, 4, ends);
        Bench.data(x, 7, 0, 31, 4, ends);
        x.thread(8, 0, 15);
        x.thread(9, 0, 63);
        x.thread(10, 0, 511);
        x.finish(0);
        DUE.ran(x, "from 15 to 16", x.enter(8, 0, 40, 9), 0, 43, 3);
        DUE.ran(x, "from 63 to an empty entry", x.enter(9, 0, 40, 9), 9, 1, 2);
        DUE.ran(x, "from 511 to no address", x.enter(10, 0, 40, 9), 9, 1, 2);
    }

    /** Promise 14: "0 it leaves with ra." Every register, and words at their ends. */
    private static void leaves() {
        for (int a = 0; a < 4; a++) {
            PageMonitor x = Bench.ready(Bench.op(1, 0, 0, 10), Bench.op(1, 1, 0, 11), Bench.op(1, 2, 0, 12),
                Bench.op(1, 3, 0, 13), Bench.op(0, a, 3, -1));
            DUE.ran(x, "leave with register " + a, x.enter(2, 0, 0, 100), 0, 10 + a, 5);
        }
        PageMonitor y = Bench.ready(LEAVE);
        for (int v : new int[] {0, 9, -1, LOWEST, HIGHEST}) {
            DUE.ran(y, "leave with " + v, y.enter(2, v, 0, 1), 0, v, 1);
        }
    }

    /** Promise 14: "1 ra is i." The least and the most that i can be, and every register. */
    private static void immediates() {
        for (int i : new int[] {0, 1, -1, 255, 256, 65536, MOST_I, LEAST_I}) {
            for (int a = 0; a < 4; a++) {
                int[] want = {9, 8, 7, 6};
                want[a] = i;
                DUE.words("1 with i " + i, registersAfter(Bench.op(1, a, 3 - a, i), 9, 8, 7, 6), want);
            }
        }
    }

    private static int due(int op, int a, int b) {
        long sum = op == 2 ? (long) a + b : op == 3 ? (long) a - b : op == 4 ? (long) a * b : a & b;
        return (int) sum;
    }

    /** Promise 14: "2, 3, 4, 5: ra is ra + rb, ra - rb, ra times rb, ra and rb by bits." Every a and b. */
    private static void arithmeticInEveryRegister() {
        for (int op = 2; op <= 5; op++) {
            for (int a = 0; a < 4; a++) {
                for (int b = 0; b < 4; b++) {
                    int[] want = {0x155, -77, 1234, -4097};
                    want[a] = due(op, want[a], want[b]);
                    DUE.words("op " + op + ", a " + a + ", b " + b,
                        registersAfter(Bench.op(op, a, b, 0x7fff), 0x155, -77, 1234, -4097), want);
                }
            }
        }
        int[] values = {0, 1, -1, 7, -13, 65537, HIGHEST, LOWEST, 0x55555555, 0x0ff0f00f};
        for (int op = 2; op <= 5; op++) {
            PageMonitor x = Bench.ready(Bench.op(op, 0, 1, 0x7fff), LEAVE);
            for (int k = 0; k < 100; k++) {
                int a = values[k / 10];
                int b = values[k % 10];
                DUE.ran(x, "op " + op + " of " + a + " and " + b, x.enter(2, a, b, 2), 0, due(op, a, b), 2);
            }
        }
    }

    private static void does(int op, int a, int b, int want) {
        PageMonitor x = Bench.ready(Bench.op(op, 0, 1, 0), LEAVE);
        DUE.ran(x, "op " + op + " of " + a + " and " + b, x.enter(2, a, b, 2), 0, want, 2);
    }

    /** Promise 14: "ra is ra + rb"; "WORDS are ints", so that sums wrap around. */
    private static void sumsWrapAround() {
        does(2, HIGHEST, 1, LOWEST);
        does(2, LOWEST, -1, HIGHEST);
        does(2, LOWEST, LOWEST, 0);
        does(2, HIGHEST, HIGHEST, -2);
        does(2, HIGHEST, LOWEST, -1);
    }

    /** Promise 14: "ra - rb"; "WORDS are ints", so that differences wrap around. */
    private static void differencesWrapAround() {
        does(3, LOWEST, 1, HIGHEST);
        does(3, HIGHEST, -1, LOWEST);
        does(3, 0, LOWEST, LOWEST);
        does(3, -1, LOWEST, HIGHEST);
        does(3, LOWEST, HIGHEST, 1);
        does(3, 5, 7, -2);
    }

    /** Promise 14: "ra times rb"; "WORDS are ints", so that products wrap around. */
    private static void productsWrapAround() {
        does(4, 65536, 65536, 0);
        does(4, 65536, 32768, LOWEST);
        does(4, 46341, 46341, -2147479015);
        does(4, LOWEST, -1, LOWEST);
        does(4, LOWEST, LOWEST, 0);
        does(4, HIGHEST, HIGHEST, 1);
        does(4, HIGHEST, 2, -2);
        does(4, -1, -1, 1);
    }

    /** Promise 14: "ra and rb by bits." The highest bit, all bits and none. */
    private static void bits() {
        does(5, -1, LOWEST, LOWEST);
        does(5, HIGHEST, LOWEST, 0);
        does(5, -1, -1, -1);
        does(5, 0, -1, 0);
        does(5, 12, 10, 8);
    }

    /** Promise 14: "ra, rb are registers", also one and the same. */
    private static void oneRegisterTwice() {
        for (int a = 0; a < 4; a++) {
            for (int op = 2; op <= 5; op++) {
                int[] want = {6, 6, 6, 6};
                want[a] = new int[] {12, 0, 36, 6}[op - 2];
                DUE.words("op " + op + " of register " + a + " twice",
                    registersAfter(Bench.op(op, a, a, 0), 6, 6, 6, 6), want);
            }
        }
    }

    /** Code that does one op with rb + i, data of rights 1 to 7 at blocks 1 to 7 and a frame at 8. */
    private static PageMonitor reaching(int op, int i) {
        PageMonitor x = Bench.building(Bench.op(op, 0, 1, i), LEAVE);
        x.table(4, 0, 1);
        for (int rights = 1; rights <= 7; rights++) {
            x.poke(0, 0, rights * 100);
            x.poke(0, 15, rights * 100 + 15);
            x.data(4 + rights, 0, rights, rights, 0);
        }
        x.share(0, 8, 1, 0);
        x.finish(0);
        return x;
    }

    /** Promise 14: "6 ra is the word at rb + i."; "(with the right 1 to read, else fault 2". */
    private static void loads() {
        for (int i : new int[] {0, 5, -3, MOST_I, LEAST_I}) {
            PageMonitor x = reaching(6, i);
            for (int rights = 1; rights <= 7; rights++) {
                boolean may = (rights & 1) != 0;
                int first = rights * 16 - i;
                DUE.ran(x, "first word, rights " + rights, x.enter(2, 1, first, 9), may ? 0 : 9,
                    may ? rights * 100 : 2, may ? 2 : 1);
                DUE.ran(x, "last word, rights " + rights, x.enter(2, 1, first + 15, 9), may ? 0 : 9,
                    may ? rights * 100 + 15 : 2, may ? 2 : 1);
            }
            DUE.ran(x, "a frame", x.enter(2, 1, 128 - i, 9), 0, 700, 2);
            DUE.ran(x, "code with rights 4", x.enter(2, 1, 15 - i, 9), 9, 2, 1);
            for (int address : new int[] {-1, 144, 255, 256, 511, 512, LOWEST, HIGHEST, -16, 1024 + 16}) {
                DUE.ran(x, "nothing at " + address, x.enter(2, 1, address - i, 9), 9, 2, 1);
            }
        }
    }

    /** Promise 14: "the word at rb + i": the sum wraps around, and no address is near where it does. */
    private static void loadsOfSums() {
        for (int op = 6; op <= 7; op++) {
            int[][] sums = {
                {HIGHEST, 1}, {HIGHEST, MOST_I}, {LOWEST, -1}, {LOWEST, LEAST_I}, {-1, 0}, {0, -1}, {511, 1},
            };
            for (int[] w : sums) {
                PageMonitor x = Bench.building(Bench.op(op, 0, 1, w[1]), LEAVE);
                x.table(4, 0, 3);
                x.data(5, 0, 31, 7, 0);
                x.data(6, 0, 1, 7, 0);
                x.finish(0);
                DUE.ran(x, "op " + op + " at " + w[0] + " + " + w[1], x.enter(2, 0, w[0], 9), 9, op - 4, 1);
            }
        }
        PageMonitor x = Bench.building(Bench.op(6, 0, 1, -512), LEAVE);
        x.table(4, 0, 3);
        Bench.data(x, 5, 0, 31, 1, 0, 0, 0, 0, 0, 0, 0, 0, 0, 0, 0, 0, 0, 0, 0, 51);
        x.finish(0);
        DUE.ran(x, "the last address as 1023 - 512", x.enter(2, 0, 1023, 9), 0, 51, 2);
        DUE.ran(x, "behind it", x.enter(2, 0, 1024, 9), 9, 2, 1);
    }

    /** Promise 14: "7 the word at rb + i is ra."; "2 to write, else fault 3". */
    private static void saves() {
        PageMonitor x = reaching(7, 2);
        for (int rights = 1; rights <= 7; rights++) {
            boolean may = (rights & 2) != 0;
            DUE.ran(x, "save with rights " + rights, x.enter(2, 55, rights * 16, 9), may ? 0 : 9, may ? 55 : 3,
                may ? 2 : 1);
        }
        for (int address : new int[] {-1, 0, 128, 144, 511, 512, LOWEST, HIGHEST}) {
            DUE.ran(x, "no right to write at " + address, x.enter(2, 1, address - 2, 9), 9, 3, 1);
        }
        PageMonitor y = Bench.building(Bench.op(7, 0, 1, 0), Bench.op(6, 2, 1, 0), Bench.op(0, 2, 0, 0));
        y.data(4, 0, 1, 3, 6);
        y.share(0, 2, 3, 6);
        y.finish(0);
        for (int address = 16; address < 48; address++) {
            DUE.ran(y, "save and load", y.enter(2, -address, address, 3), 0, -address, 3);
        }
        for (int i = 0; i < 16; i++) {
            DUE.same("the frame's words", y.peek(6, i), -32 - i);
        }
        DUE.words("registers behind 7", registersAfter(Bench.op(7, 2, 1, 15), 1, 16, 3, 4), new int[] {1, 16, 3, 4});
    }

    /** Promise 14: "7 the word at rb + i is ra." Also when that word is the next instruction. */
    private static void savedWordsAreDone() {
        PageMonitor x = Bench.building();
        Bench.data(x, 4, 0, 1, 6, Bench.op(7, 0, 1, 0), Bench.op(15, 0, 0, 0));
        x.thread(5, 0, 16);
        x.finish(0);
        DUE.ran(x, "code that writes its next instruction", x.enter(5, Bench.op(0, 1, 0, 0), 17, 9), 0, 17, 2);
    }

    /** Promise 14: "8 the place is i more, if ra isn't 0.", behind "the place goes on by 1 first". */
    private static void jumps() {
        int[] code = new int[16];
        for (int i = 0; i < 16; i++) {
            code[i] = i % 2 == 0 ? Bench.op(1, 1, 0, i) : Bench.op(0, 1, 0, 0);
        }
        for (int to = 0; to < 16; to += 2) {
            int[] jumping = code.clone();
            jumping[7] = Bench.op(8, 0, 0, to - 8);
            PageMonitor x = Bench.building(jumping);
            x.thread(4, 0, 7);
            x.finish(0);
            boolean loop = to == 6;
            DUE.ran(x, "jump to " + to, x.enter(4, LOWEST, 0, 3), loop ? 8 : 0, loop ? 0 : to, 3);
            if (!loop) {
                DUE.ran(x, "no jump", x.enter(4, 0, 1, 3), 0, 8, 3);
            }
        }
        PageMonitor still = Bench.ready(Bench.op(8, 0, 0, -1));
        DUE.ran(still, "jump to itself", still.enter(2, 1, 0, 2000), 8, 0, 2000);
    }

    /** One jump at an address, and at all others of blocks 0 and 31 an instruction that leaves with b. */
    private static PageMonitor jumper(int from, int i) {
        int[] low = new int[16];
        int[] high = new int[16];
        for (int k = 0; k < 16; k++) {
            low[k] = from == k ? Bench.op(8, 0, 0, i) : Bench.op(0, 1, 0, 0);
            high[k] = from == 496 + k ? Bench.op(8, 0, 0, i) : Bench.op(0, 1, 0, 0);
        }
        PageMonitor x = Bench.building(low);
        x.table(4, 0, 3);
        Bench.data(x, 5, 0, 31, 4, high);
        x.thread(6, 0, from);
        x.finish(0);
        return x;
    }

    /** Promise 14: "8 the place is i more": to the first and the last address, and behind them. */
    private static void jumpsOutside() {
        int[][] inside = {{7, 0}, {7, 511}, {511, 0}, {511, 496}, {0, 511}, {0, 496}, {496, 15}};
        for (int[] w : inside) {
            PageMonitor x = jumper(w[0], w[1] - w[0] - 1);
            DUE.ran(x, "jump from " + w[0] + " to " + w[1], x.enter(6, 1, 33, 9), 0, 33, 2);
        }
        int[][] outside = {
            {7, -1}, {7, 512}, {511, -1}, {511, 512}, {0, -1}, {7, 8 + LEAST_I}, {7, 8 + MOST_I},
            {511, 512 + MOST_I}, {0, 1 + LEAST_I}, {7, -512}, {7, 1024}, {7, 16}, {7, 495},
        };
        for (int[] w : outside) {
            PageMonitor x = jumper(w[0], w[1] - w[0] - 1);
            DUE.ran(x, "jump from " + w[0] + " to " + w[1], x.enter(6, 1, 33, 9), 9, 1, 2);
        }
    }

    /** Promise 14: "8 the place is i more, if ra isn't 0." Any word but 0, in every register. */
    private static void jumpsOnAnythingButZero() {
        for (int a = 0; a < 4; a++) {
            int into = Bench.op(2, a, 0, 0);
            PageMonitor x = a == 0 ? Bench.ready(Bench.op(8, 0, 0, 1), Bench.op(0, 1, 0, 0), LEAVE)
                : Bench.ready(Bench.op(3, a, a, 0), into, Bench.op(8, a, 0, 2), Bench.op(1, 0, 0, 55), LEAVE,
                    Bench.op(1, 0, 0, 66), LEAVE);
            for (int v : new int[] {1, -1, LOWEST, HIGHEST, 256, 1 << 16}) {
                DUE.ran(x, "jump on " + v, x.enter(2, v, 55, 9), 0, a == 0 ? v : 66, a == 0 ? 2 : 5);
            }
            DUE.ran(x, "no jump on 0", x.enter(2, 0, 55, 9), 0, 55, a == 0 ? 2 : 5);
        }
    }

    /** Space 0 with data 4 at block 1, frames at 2 and 3, spare pages 5 and 19; space 10 with spare 11. */
    private static PageMonitor withSpares(int... code) {
        PageMonitor x = Bench.building(code);
        for (int i = 0; i < 16; i++) {
            x.poke(0, i, 5);
        }
        x.data(4, 0, 1, 3, 0);
        x.share(0, 2, 3, 0);
        x.share(0, 3, 1, 7);
        x.spare(5, 0);
        x.spare(19, 0);
        x.space(10);
        x.spare(11, 10);
        x.finish(0);
        return x;
    }

    /** Promise 14: "12 the spare page ra becomes data of sixteen words 0, at the block rb": "ra is 0 then". */
    private static void spareBecomesData() {
        PageMonitor x = withSpares(Bench.op(12, 0, 1, 3), LEAVE);
        int[] measure = Bench.measureOf(x, 0);
        DUE.ran(x, "page 5 at block 7", x.enter(2, 5, 7, 9), 0, 0, 2);
        DUE.told(x, 5, 4, 0, 0, 0);
        DUE.same("the space has as many pages", x.told(0, 3), 6);
        DUE.same("data is not removed", x.remove(5), 4);
        DUE.words("the measure stays", Bench.measureOf(x, 0), measure);
        DUE.ran(x, "the entry isn't empty now", x.enter(2, 19, 7, 9), 0, 1, 2);
        DUE.ran(x, "it isn't spare now", x.enter(2, 5, 6, 9), 0, 1, 2);
        DUE.ran(x, "page 19 at block 6", x.enter(2, 19, 6, 9), 0, 0, 2);
        for (int a = 0; a < 4; a++) {
            PageMonitor y = withSpares(Bench.op(2, a == 0 ? 3 : a, a == 0 ? 3 : 0, 0), Bench.op(12, a, a, 7),
                Bench.op(0, a, 0, 0));
            DUE.ran(y, "register " + a + " for page and block 5", y.enter(2, 5, 0, 9), 0, 0, 3);
            DUE.told(y, 5, 4, 0, 0, 0);
        }
    }

    /** Promise 14: "becomes data of sixteen words 0", whatever words the page, or a frame, had. */
    private static void spareBecomesDataOfZeros() {
        PageMonitor x = withSpares(Bench.op(8, 0, 0, 4), Bench.op(13, 0, 1, 0), Bench.op(12, 0, 1, 3), LEAVE, 0,
            Bench.op(6, 0, 1, 0), LEAVE);
        DUE.ran(x, "word 0 before", x.enter(2, 1, 16, 9), 0, 5, 3);
        DUE.ran(x, "spare, then data", x.enter(2, 0, 1, 9), 0, 0, 4);
        DUE.told(x, 4, 4, 0, 0, 0);
        for (int i = 0; i < 16; i++) {
            DUE.ran(x, "word " + i, x.enter(2, 1, 16 + i, 9), 0, 0, 3);
        }
    }

    /** Promise 14: "with the rights i & 7". Each of the seven, and what i has beyond its lowest bits. */
    private static void spareGetsRights() {
        for (int rights = 1; rights <= 7; rights++) {
            for (int i : new int[] {rights, rights + 8, rights - 8, rights + (MOST_I & ~7), rights + LEAST_I}) {
                tryRights(rights, i);
            }
        }
    }

    private static void tryRights(int rights, int i) {
        PageMonitor x = Bench.building(Bench.op(12, 0, 1, i), LEAVE, Bench.op(6, 0, 1, 0), LEAVE,
            Bench.op(7, 0, 1, 0), LEAVE);
        x.thread(5, 0, 2);
        x.thread(6, 0, 4);
        x.thread(7, 0, 112);
        x.spare(8, 0);
        x.finish(0);
        DUE.ran(x, "rights " + rights + " by i " + i, x.enter(2, 8, 7, 9), 0, 0, 2);
        boolean may = (rights & 1) != 0;
        DUE.ran(x, "read with rights " + rights, x.enter(5, 9, 127, 9), may ? 0 : 9, may ? 0 : 2, may ? 2 : 1);
        may = (rights & 2) != 0;
        DUE.ran(x, "write with rights " + rights, x.enter(6, 9, 127, 9), may ? 0 : 9, may ? 9 : 3, may ? 2 : 1);
        may = (rights & 4) != 0;
        DUE.ran(x, "do with rights " + rights, x.enter(7, 9, 9, 9), may ? 0 : 9, may ? 9 : 1, 1);
    }

    /** Promise 14: "the spare page ra becomes data", page 0 or 19, "at the block rb", 0 or 31. */
    private static void firstAndLastSpareAndBlock() {
        PageMonitor x = new PageMonitor();
        x.space(10);
        x.table(11, 10, 0);
        x.table(12, 10, 3);
        Bench.data(x, 13, 10, 1, 4, Bench.op(12, 0, 1, 1), LEAVE, Bench.op(6, 0, 1, 0), LEAVE);
        x.thread(14, 10, 16);
        x.thread(15, 10, 18);
        x.spare(0, 10);
        x.spare(19, 10);
        x.finish(10);
        DUE.ran(x, "page 0 at block 31", x.enter(14, 0, 31, 9), 0, 0, 2);
        DUE.told(x, 0, 4, 10, 0, 0);
        DUE.ran(x, "page 19 at block 0", x.enter(14, 19, 0, 9), 0, 0, 2);
        DUE.told(x, 19, 4, 10, 0, 0);
        for (int address : new int[] {0, 15, 496, 511}) {
            DUE.ran(x, "the word at " + address, x.enter(15, 9, address, 9), 0, 0, 2);
        }
    }

    /** Promise 14: "but 1 if it is no spare page of this space, or block or rights are out of their range". */
    private static void spareIsRefused() {
        int[][] pagesAndBlocks = {
            {-1, 7}, {20, 7}, {LOWEST, 7}, {HIGHEST, 7}, {0, 7}, {1, 7}, {2, 7}, {3, 7}, {4, 7}, {10, 7},
            {11, 7}, {12, 7}, {5, -1}, {5, 32}, {5, LOWEST}, {5, HIGHEST}, {-1, -1}, {20, 32},
            // "there is no table, or its entry isn't empty"
            {5, 8}, {5, 15}, {5, 16}, {5, 24}, {5, 31}, {5, 0}, {5, 1}, {5, 2}, {5, 3}, {11, 1}, {20, 8},
        };
        PageMonitor x = withSpares(Bench.op(12, 0, 1, 7), LEAVE);
        for (int[] w : pagesAndBlocks) {
            DUE.ran(x, "page " + w[0] + " at block " + w[1], x.enter(2, w[0], w[1], 9), 0, 1, 2);
        }
        int[] kinds = {1, 3, 2, 4, 4, 5, 0, 0, 0, 0, 1, 5, 0, 0, 0, 0, 0, 0, 0, 5};
        for (int page = 0; page < 20; page++) {
            DUE.same("kind of " + page, x.told(page, 0), kinds[page]);
        }
        DUE.ran(x, "page 5 at block 7", x.enter(2, 5, 7, 9), 0, 0, 2);
    }

    /** Promise 14: "or block or rights are out of their range": no rights are left by i & 7. */
    private static void spareWithoutRights() {
        for (int i : new int[] {0, 8, -8, 1 << 20, LEAST_I}) {
            PageMonitor x = withSpares(Bench.op(12, 0, 1, i), LEAVE);
            DUE.ran(x, "rights 0 by i " + i, x.enter(2, 5, 7, 9), 0, 1, 2);
            DUE.told(x, 5, 5, 0, 0, 0);
        }
        PageMonitor y = withSpares(Bench.op(12, 0, 1, -1), LEAVE);
        DUE.ran(y, "rights 7 by i -1", y.enter(2, 5, 7, 9), 0, 0, 2);
    }

    /** Promise 14: "13 the data page at block rb becomes spare, the entry empty: ra is its number". */
    private static void dataBecomesSpare() {
        PageMonitor x = withSpares(Bench.op(13, 0, 1, 0), LEAVE);
        int[] measure = Bench.measureOf(x, 0);
        DUE.ran(x, "data at block 1", x.enter(2, 0, 1, 9), 0, 4, 2);
        DUE.told(x, 4, 5, 0, 0, 0);
        DUE.same("the space has as many pages", x.told(0, 3), 6);
        DUE.words("the measure stays", Bench.measureOf(x, 0), measure);
        DUE.ran(x, "the entry is empty", x.enter(2, 0, 1, 9), 0, -1, 2);
        DUE.same("a spare page can be removed", x.remove(4), 0);
        DUE.told(x, 4, 0, -1, 0, 0);
        PageMonitor y = withSpares(Bench.op(13, 1, 1, 0), Bench.op(6, 0, 2, 16), LEAVE);
        DUE.ran(y, "what is spare is not read", y.enter(2, 0, 1, 9), 9, 2, 2);
        PageMonitor z = withSpares(Bench.op(13, 1, 1, 0), Bench.op(7, 0, 2, 16), LEAVE);
        DUE.ran(z, "what is spare is not written", z.enter(2, 0, 1, 9), 9, 3, 2);
    }

    /** Promise 14: "but NONE if there is none": an empty entry, a frame, no table, no block. */
    private static void noDataThere() {
        PageMonitor x = withSpares(Bench.op(13, 0, 1, 0), LEAVE);
        for (int block : new int[] {-1, -8, 32, LOWEST, HIGHEST, 4, 7, 8, 16, 24, 31, 2, 3}) {
            DUE.ran(x, "no data at block " + block, x.enter(2, 0, block, 9), 0, PageMonitor.NONE, 2);
        }
        DUE.told(x, 0, 1, -1, 1, 6);
        PageMonitor y = withSpares(Bench.op(13, 3, 0, 0), Bench.op(6, 2, 1, 0), Bench.op(7, 3, 1, 0),
            Bench.op(0, 2, 0, 0));
        DUE.ran(y, "a frame's entry isn't made empty", y.enter(2, 2, 32, 9), 0, 5, 4);
        DUE.same("the frame is written still", y.peek(0, 0), -1);
    }

    /** Promise 14: "ra is its number", 0 and 19 too, from block 0 and 31. */
    private static void firstAndLastDataPage() {
        PageMonitor x = new PageMonitor();
        x.space(10);
        x.table(11, 10, 0);
        x.table(12, 10, 3);
        Bench.data(x, 13, 10, 1, 4, Bench.op(13, 0, 1, 0), LEAVE);
        x.data(0, 10, 31, 7, 0);
        x.data(19, 10, 0, 1, 0);
        x.thread(14, 10, 16);
        x.finish(10);
        DUE.ran(x, "page 0 at block 31", x.enter(14, 9, 31, 9), 0, 0, 2);
        DUE.told(x, 0, 5, 10, 0, 0);
        DUE.ran(x, "page 19 at block 0", x.enter(14, 9, 0, 9), 0, 19, 2);
        DUE.told(x, 19, 5, 10, 0, 0);
        DUE.ran(x, "none at block 31 now", x.enter(14, 9, 31, 9), 0, -1, 2);
    }

    /** Promise 14: "the entry empty", so that 12 may use the page and the block again, in either order. */
    private static void spareAndDataAgain() {
        int[] code = {
            Bench.op(13, 0, 1, 0), Bench.op(12, 0, 1, 1), Bench.op(6, 2, 3, 16), Bench.op(6, 3, 3, 31),
            Bench.op(2, 2, 3, 0), Bench.op(0, 2, 0, 0),
        };
        PageMonitor x = withSpares(code);
        DUE.ran(x, "data that was spare between has words 0", x.enter(2, 0, 1, 9), 0, 0, 6);
        DUE.told(x, 4, 4, 0, 0, 0);
        PageMonitor y = withSpares(Bench.op(12, 0, 1, 3), Bench.op(13, 2, 1, 0), Bench.op(0, 2, 0, 0));
        for (int again = 0; again < 3; again++) {
            DUE.ran(y, "spare 19, data and spare again", y.enter(2, 19, 5, 9), 0, 19, 3);
            DUE.told(y, 19, 5, 0, 0, 0);
        }
    }

    /** Promise 14: "13 the data page at block rb becomes spare", also the one whose instruction it is. */
    private static void codeThatGoesAway() {
        PageMonitor x = Bench.ready(Bench.op(13, 0, 1, 0), LEAVE);
        DUE.ran(x, "the code's own page", x.enter(2, 0, 0, 9), 9, 1, 2);
        DUE.told(x, 3, 5, 0, 0, 0);
        DUE.ran(x, "nothing to do any more", x.enter(2, 0, 0, 9), 9, 1, 1);
    }

    /** Promise 14: "14, 15 are fault 4." Whatever else the word tells. */
    private static void unknownInstructions() {
        for (int op = 14; op <= 15; op++) {
            for (int i : new int[] {0, 3, -1, MOST_I, LEAST_I}) {
                PageMonitor x = Bench.ready(Bench.op(op, 1, 2, i));
                DUE.ran(x, "op " + op + ", i " + i, x.enter(2, 5, 5, 9), 9, 4, 1);
                DUE.same("it is not entered", x.told(2, 2), 0);
            }
        }
        PageMonitor x = Bench.ready(-1);
        DUE.ran(x, "the word -1", x.enter(2, 5, 5, 9), 9, 4, 1);
    }

    /** Promise 14: "After a fault registers are lost": of each of the four faults, and what was kept. */
    private static void registersAreLost() {
        int[] faults = {Bench.op(8, 3, 0, 100), Bench.op(6, 0, 3, 200), Bench.op(7, 0, 3, 200), Bench.op(14, 0, 0, 0)};
        for (int k = 0; k < 4; k++) {
            PageMonitor x = Bench.ready(Bench.op(8, 0, 0, 1), Bench.op(0, 3, 0, 0), Bench.op(1, 3, 0, 7), faults[k]);
            DUE.ran(x, "interrupted", x.enter(2, 1, 0, 2), 8, 0, 2);
            DUE.ran(x, "fault " + (k + 1), x.resume(2, 9), 9, k + 1, k == 0 ? 2 : 1);
            DUE.told(x, 2, 2, 0, 0, 0);
            DUE.same("it can't go on", x.resume(2, 9), 6);
            DUE.ran(x, "it begins anew", x.enter(2, 0, 0, 9), 0, 0, 2);
        }
    }

    /** Promise 14: "nothing of the instruction is done": no word that any fault could have written. */
    private static void nothingOfTheInstruction() {
        for (int instruction : new int[] {Bench.op(6, 0, 1, 0), Bench.op(7, 0, 1, 0), Bench.op(14, 0, 1, 0)}) {
            PageMonitor x = Bench.building(instruction, LEAVE);
            x.data(4, 0, 1, 4, 0);
            x.share(0, 2, 1, 3);
            x.finish(0);
            String before = Bench.seen(x);
            boolean save = (instruction & 15) == 7;
            DUE.same("a fault", x.enter(2, 9, save ? 32 : 16, 9), 9);
            DUE.words("the frame", Bench.frame(x, 3), new int[16]);
            String behind = Bench.seen(x);
            // the last two numbers are the result and the steps, which tell of the fault
            DUE.alike("all else", behind.substring(0, behind.length() - 3), before.substring(0, before.length() - 3));
        }
    }

    /** Promise 14: "nothing of the instruction is done", but all of those before it. */
    private static void whatWasDoneBeforeStays() {
        PageMonitor x = withSpares(Bench.op(7, 0, 1, 0), Bench.op(1, 1, 0, 1), Bench.op(13, 1, 1, 0),
            Bench.op(15, 0, 0, 0));
        DUE.ran(x, "a fault with the fourth", x.enter(2, 71, 32, 9), 9, 4, 4);
        DUE.same("the word is written", x.peek(0, 0), 71);
        DUE.told(x, 4, 5, 0, 0, 0);
    }
}
