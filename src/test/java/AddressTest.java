/**
 * What the terms say of addresses, blocks and rights, where promises 7 to 9, 14 and 15 use them. Each
 * comment names the promise and, between quotes, the words of the document that are tested.
 */
public final class AddressTest {
    private static final Due DUE = new Due("AddressTest");
    private static final int LOAD = Bench.op(6, 0, 1, 0);
    private static final int SAVE = Bench.op(7, 0, 1, 0);
    private static final int LEAVE = Bench.LEAVE;

    public static void main(String[] args) {
        everyBlockOfData();
        everyBlockOfAFrame();
        everyBlockOfInstructions();
        everyPlaceOfATable();
        noSuchAddress();
        allAddressesAtOnce();
        rightsOfData();
        rightsOfFrames();
        emptyEntries();
        oneFrameAtTwoBlocks();
        twoSpaces();
        DUE.end();
    }

    /** Space 0 with tables for all places on pages 4 to 1, and thread 5 with code on page 6 at a block. */
    private static PageMonitor withCodeAt(int block, int... code) {
        PageMonitor x = new PageMonitor();
        x.space(0);
        for (int place = 0; place < 4; place++) {
            x.table(4 - place, 0, place);
        }
        x.thread(5, 0, block * 16);
        Bench.data(x, 6, 0, block, 4, code);
        return x;
    }

    private static int besides(int block) {
        return block == 0 ? 1 : 0;
    }

    private static int[] numbered(int first) {
        int[] words = new int[16];
        for (int i = 0; i < 16; i++) {
            words[i] = first + i;
        }
        return words;
    }

    /** Promises 8 and 14: "ADDRESSES 0 .. 511 of words in a space: BLOCK address / 16 (0 .. 31)". */
    private static void everyBlockOfData() {
        for (int block = 0; block < 32; block++) {
            PageMonitor x = withCodeAt(besides(block), LOAD, LEAVE);
            Bench.data(x, 7, 0, block, 1, numbered(1000 * block));
            x.finish(0);
            int first = block * 16;
            for (int i = 0; i < 16; i++) {
                DUE.ran(x, "load at " + (first + i), x.enter(5, 0, first + i, 9), 0, 1000 * block + i, 2);
            }
            DUE.ran(x, "load at " + (first - 1), x.enter(5, 0, first - 1, 9), 9, 2, 1);
            DUE.ran(x, "load at " + (first + 16), x.enter(5, 0, first + 16, 9), 9, 2, 1);
        }
    }

    /** Promises 9 and 14: "is entry block % 8 of the table at place block / 8", for frames. */
    private static void everyBlockOfAFrame() {
        for (int block = 0; block < 32; block++) {
            PageMonitor x = withCodeAt(besides(block), SAVE, LEAVE);
            int frame = block % 8;
            x.share(0, block, 3, frame);
            x.finish(0);
            int first = block * 16;
            int[] want = new int[16];
            for (int i = 0; i < 16; i += 5) {
                want[i] = 1 + first + i;
                DUE.ran(x, "save at " + (first + i), x.enter(5, want[i], first + i, 9), 0, want[i], 2);
            }
            DUE.ran(x, "save at " + (first - 1), x.enter(5, 9, first - 1, 9), 9, 3, 1);
            DUE.ran(x, "save at " + (first + 16), x.enter(5, 9, first + 16, 9), 9, 3, 1);
            DUE.words("frame " + frame, Bench.frame(x, frame), want);
        }
    }

    /** Promise 14: "a PLACE, an address", at the first and the last word of every block. */
    private static void everyBlockOfInstructions() {
        for (int block = 0; block < 32; block++) {
            PageMonitor x = new PageMonitor();
            x.space(0);
            x.table(1, 0, block / 8);
            int step = Bench.op(2, 0, 1, 0);
            Bench.data(x, 2, 0, block, 4, step, step, step, step, step, step, step, step, step, step, step, step,
                step, step, step, LEAVE);
            x.thread(3, 0, block * 16);
            x.thread(4, 0, block * 16 + 15);
            if (block > 0) {
                x.thread(5, 0, block * 16 - 1);
            }
            if (block < 31) {
                x.thread(6, 0, block * 16 + 16);
            }
            x.finish(0);
            DUE.ran(x, "all of block " + block, x.enter(3, 0, 1, 99), 0, 15, 16);
            DUE.ran(x, "the last word of block " + block, x.enter(4, 7, 1, 99), 0, 7, 1);
            if (block > 0) {
                DUE.ran(x, "before block " + block, x.enter(5, 7, 1, 99), 9, 1, 1);
            }
            if (block < 31) {
                DUE.ran(x, "behind block " + block, x.enter(6, 7, 1, 99), 9, 1, 1);
            }
        }
    }

    /** Promises 7 and 9: "is entry block % 8 of the table at place block / 8". One table for eight blocks. */
    private static void everyPlaceOfATable() {
        for (int place = 0; place < 4; place++) {
            PageMonitor x = new PageMonitor();
            x.space(19);
            x.table(3 - place, 19, place);
            for (int block = 0; block < 32; block++) {
                DUE.same("block " + block + ", a table at place " + place, x.share(19, block, 1, 0),
                    block / 8 == place ? 0 : 5);
            }
        }
    }

    /** Promise 14: "Words must be at addresses": there are none below 0 and none above 511. */
    private static void noSuchAddress() {
        int[] none = {
            -1, -2, -16, -512, 512, 513, 527, 1024, 65536, Bench.LOWEST, Bench.LOWEST + 16, Bench.HIGHEST,
            Bench.HIGHEST - 15,
        };
        PageMonitor loads = withCodeAt(1, LOAD, LEAVE);
        PageMonitor saves = withCodeAt(1, SAVE, LEAVE);
        for (PageMonitor x : new PageMonitor[] {loads, saves}) {
            x.data(7, 0, 0, 3, 0);
            x.data(8, 0, 31, 3, 0);
            x.finish(0);
        }
        for (int address : none) {
            DUE.ran(loads, "load at " + address, loads.enter(5, 0, address, 9), 9, 2, 1);
            DUE.ran(saves, "save at " + address, saves.enter(5, 0, address, 9), 9, 3, 1);
        }
        for (int address : new int[] {0, 511}) {
            DUE.ran(loads, "load at " + address, loads.enter(5, 9, address, 9), 0, 0, 2);
            DUE.ran(saves, "save at " + address, saves.enter(5, 9, address, 9), 0, 9, 2);
        }
    }

    /** Promises 9, 14 and 15: "ADDRESSES 0 .. 511": a space that is full, all of it read in one walk. */
    private static void allAddressesAtOnce() {
        int[] walk = {
            Bench.op(6, 2, 0, 0), Bench.op(2, 3, 2, 0), Bench.op(1, 2, 0, 1), Bench.op(2, 0, 2, 0),
            Bench.op(1, 2, 0, -512), Bench.op(2, 2, 0, 0), Bench.op(8, 2, 0, -7), Bench.op(0, 3, 0, 0),
        };
        PageMonitor x = withCodeAt(0, walk);
        for (int block = 1; block < 32; block++) {
            DUE.same("share at block " + block, x.share(0, block, 1, block % 8), 0);
        }
        DUE.same("no room is left", x.share(0, 31, 1, 0), 5);
        x.finish(0);
        int sum = 0;
        for (int k = 0; k < 128; k++) {
            x.poke(k / 16, k % 16, 1 << k % 30);
            // frame 0 is shared three times, for the code has its first block, the others four times
            sum += (1 << k % 30) * (k < 16 ? 3 : 4);
        }
        DUE.ran(x, "walk over 496 words", x.enter(5, 16, 0, 2000), 8, 0, 2000);
        DUE.ran(x, "the rest of the way", x.resume(5, 2000), 0, sum, 496 * 7 + 1 - 2000);
    }

    /** Code that does one thing, leaves, or jumps to where the rights are tried. */
    private static PageMonitor rightsAt1(int rights, int instruction) {
        PageMonitor x = Bench.building(instruction, LEAVE);
        Bench.data(x, 4, 0, 1, rights, Bench.op(0, 1, 0, 0), 0, 0, 0, 0, 55);
        x.thread(5, 0, 16);
        x.finish(0);
        return x;
    }

    /** Promises 8 and 14: "RIGHTS: 1 to read, 2 to write, 4 to do instructions, in sums." All seven sums. */
    private static void rightsOfData() {
        for (int rights = 1; rights <= 7; rights++) {
            PageMonitor loads = rightsAt1(rights, LOAD);
            boolean may = rights % 2 == 1;
            DUE.ran(loads, "read with rights " + rights, loads.enter(2, 0, 21, 9), may ? 0 : 9, may ? 55 : 2,
                may ? 2 : 1);
            PageMonitor saves = rightsAt1(rights, SAVE);
            may = rights == 2 || rights == 3 || rights == 6 || rights == 7;
            DUE.ran(saves, "write with rights " + rights, saves.enter(2, 66, 21, 9), may ? 0 : 9, may ? 66 : 3,
                may ? 2 : 1);
            PageMonitor does = rightsAt1(rights, LEAVE);
            may = rights >= 4;
            DUE.ran(does, "do with rights " + rights, does.enter(5, 77, 78, 9), may ? 0 : 9, may ? 78 : 1, 1);
        }
    }

    private static PageMonitor frameAt1(int rights, int instruction) {
        PageMonitor x = Bench.building(instruction, LEAVE);
        x.share(0, 1, rights, 3);
        x.thread(5, 0, 16);
        x.finish(0);
        x.poke(3, 5, 55);
        return x;
    }

    /** Promises 9 and 14: "(rights of data 1 to 7, of frames 1 or 3)": frames never have the right 4. */
    private static void rightsOfFrames() {
        for (int rights = 1; rights <= 3; rights += 2) {
            PageMonitor loads = frameAt1(rights, LOAD);
            DUE.ran(loads, "read a frame with rights " + rights, loads.enter(2, 0, 21, 9), 0, 55, 2);
            PageMonitor saves = frameAt1(rights, SAVE);
            boolean may = rights == 3;
            DUE.ran(saves, "write a frame with rights " + rights, saves.enter(2, 66, 21, 9), may ? 0 : 9,
                may ? 66 : 3, may ? 2 : 1);
            DUE.same("the frame's word", saves.peek(3, 5), may ? 66 : 55);
            PageMonitor does = frameAt1(rights, LEAVE);
            DUE.ran(does, "do instructions of a frame", does.enter(5, 0, 0, 9), 9, 1, 1);
        }
    }

    /** Promise 14: "An entry is empty, or a page of data, or a frame": nothing is where it is empty. */
    private static void emptyEntries() {
        PageMonitor x = Bench.building(LOAD, LEAVE);
        x.thread(4, 0, 16);
        x.thread(5, 0, 128);
        x.finish(0);
        DUE.ran(x, "load where the entry is empty", x.enter(2, 0, 16, 9), 9, 2, 1);
        DUE.ran(x, "load where the last entry is empty", x.enter(2, 0, 127, 9), 9, 2, 1);
        DUE.ran(x, "load where no table is", x.enter(2, 0, 128, 9), 9, 2, 1);
        DUE.ran(x, "run where the entry is empty", x.enter(4, 0, 0, 9), 9, 1, 1);
        DUE.ran(x, "run where no table is", x.enter(5, 0, 0, 9), 9, 1, 1);
    }

    /** Promise 9: "An entry is empty, or a page of data, or a frame, with RIGHTS": of the entry, not the frame. */
    private static void oneFrameAtTwoBlocks() {
        PageMonitor x = Bench.building(SAVE, Bench.op(6, 0, 1, 16), LEAVE);
        x.share(0, 1, 3, 6);
        x.share(0, 2, 1, 6);
        x.finish(0);
        DUE.ran(x, "written at the one, read at the other", x.enter(2, 81, 16, 9), 0, 81, 3);
        DUE.ran(x, "the other has no right to write", x.enter(2, 82, 32, 9), 9, 3, 1);
        DUE.same("the frame's word", x.peek(6, 0), 81);
    }

    /** Promises 8, 9 and 14: "ADDRESSES 0 .. 511 of words in a space": each space has its own. */
    private static void twoSpaces() {
        PageMonitor x = new PageMonitor();
        for (int space = 0; space < 20; space += 10) {
            x.space(space);
            x.table(space + 1, space, 0);
            Bench.data(x, space + 2, space, 0, 4, LOAD, SAVE, Bench.op(6, 0, 1, 1), LEAVE);
            Bench.data(x, space + 3, space, 1, 3, 100 + space, 200 + space);
            x.share(space, 2, 3, 5);
            x.thread(space + 4, space, 2);
            x.thread(space + 5, space, 1);
            x.finish(space);
        }
        DUE.ran(x, "data of the one", x.enter(4, 0, 16, 9), 0, 200, 2);
        DUE.ran(x, "data of the other", x.enter(14, 0, 16, 9), 0, 210, 2);
        DUE.ran(x, "the one writes its data", x.enter(5, 77, 17, 9), 0, 0, 3);
        DUE.ran(x, "the other's is as before", x.enter(14, 0, 16, 9), 0, 210, 2);
        DUE.ran(x, "the one has it", x.enter(4, 0, 16, 9), 0, 77, 2);
        DUE.ran(x, "the one writes to the frame of both", x.enter(5, 88, 33, 9), 0, 0, 3);
        DUE.ran(x, "the other reads it", x.enter(14, 0, 32, 9), 0, 88, 2);
    }
}
