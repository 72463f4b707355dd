/** Promises 14 to 17: enter, resume, result, steps; and the instructions but those of the notary. */
public final class RunTest {
    private static final Due DUE = new Due("RunTest");
    private static final int LOWEST = Integer.MIN_VALUE;
    private static final int HIGHEST = Integer.MAX_VALUE;
    private static final int LEAVE = Bench.op(0, 0, 0, 0);

    public static void main(String[] args) {
        promise14Enter();
        promise14Registers();
        promise14AnyRegisterLeaves();
        promise15Resume();
        promise15KeepsAll();
        promise16And17ResultAndSteps();
        stepsRunOut();
        arithmetic();
        immediates();
        jumps();
        loads();
        saves();
        placesWithoutInstructions();
        unknownInstructions();
        spareBecomesData();
        spareIsRefused();
        dataBecomesSpare();
        codeThatGoesAway();
        DUE.end();
    }

    private static void ran(PageMonitor x, String what, int answer, int due, int result, int steps) {
        DUE.same(what, answer, due);
        DUE.same(what + ": result", x.result(), result);
        DUE.same(what + ": steps", x.steps(), steps);
    }

    private static void promise14Enter() {
        PageMonitor x = Bench.building(LEAVE);
        for (int page : new int[] {-1, 20, LOWEST, HIGHEST}) {
            DUE.same("enter(" + page + ")", x.enter(page, 0, 0, 1), 1);
        }
        for (int steps : new int[] {0, -1, 2001, LOWEST, HIGHEST}) {
            DUE.same("steps " + steps, x.enter(2, 0, 0, steps), 1);
            DUE.same("1 comes before 3", x.enter(0, 0, 0, steps), 1);
        }
        for (int page : new int[] {0, 1, 3, 9}) {
            DUE.same("no thread", x.enter(page, 0, 0, 1), 3);
        }
        DUE.same("of a space that is built", x.enter(2, 0, 0, 1), 4);
        x.finish(0);
        ran(x, "one step", x.enter(2, 7, 0, 1), 0, 7, 1);
        ran(x, "2000 steps", x.enter(2, 8, 0, 2000), 0, 8, 1);
        DUE.same("a thread that has left is not entered", x.told(2, 2), 0);
        x.stop(0);
        DUE.same("of a stopped space", x.enter(2, 0, 0, 1), 4);
        DUE.same("refused calls leave the result", x.result(), 8);
    }

    private static void promise14Registers() {
        int add = Bench.op(4, 0, 3, 0);
        PageMonitor x = Bench.ready(Bench.op(1, 3, 0, 1000), add, Bench.op(2, 0, 1, 0), LEAVE);
        x.enter(2, 3, 4, 9);
        DUE.same("a and b in registers 0 and 1", x.result(), 3004);
        PageMonitor y = Bench.building(Bench.op(0, 2, 0, 0), Bench.op(0, 3, 0, 0), Bench.op(1, 2, 0, 5),
            Bench.op(1, 3, 0, 6), Bench.op(15, 0, 0, 0));
        y.thread(4, 0, 1);
        y.thread(5, 0, 2);
        y.finish(0);
        y.enter(5, 1, 1, 9);
        y.enter(2, 1, 1, 1);
        DUE.same("register 2 is 0", y.result(), 0);
        y.enter(4, 1, 1, 1);
        DUE.same("register 3 is 0", y.result(), 0);

        int six = Bench.op(1, 2, 0, 6);
        PageMonitor z = Bench.ready(Bench.op(8, 1, 0, 2), six, six, Bench.op(0, 2, 0, 0));
        DUE.same("interrupted with register 2 as 6", z.enter(2, 0, 0, 3), 8);
        DUE.same("it leaves with 6", z.resume(2, 1), 0);
        DUE.same("result", z.result(), 6);
        z.enter(2, 0, 1, 9);
        DUE.same("entered anew register 2 is 0", z.result(), 0);
    }

    private static void promise14AnyRegisterLeaves() {
        for (int a = 0; a < 4; a++) {
            PageMonitor x = Bench.ready(Bench.op(1, 0, 0, 10), Bench.op(1, 1, 0, 11), Bench.op(1, 2, 0, 12),
                Bench.op(1, 3, 0, 13), Bench.op(0, a, 3, -1));
            ran(x, "leave with register " + a, x.enter(2, 0, 0, 100), 0, 10 + a, 5);
        }
    }

    private static void promise15Resume() {
        int more = Bench.op(2, 0, 1, 0);
        PageMonitor x = Bench.building(more, more, more, more, LEAVE);
        for (int page : new int[] {-1, 20, LOWEST, HIGHEST}) {
            DUE.same("resume(" + page + ")", x.resume(page, 1), 1);
        }
        for (int steps : new int[] {0, -1, 2001, LOWEST, HIGHEST}) {
            DUE.same("steps " + steps, x.resume(2, steps), 1);
        }
        DUE.same("no thread", x.resume(3, 1), 3);
        DUE.same("4 comes before 6", x.resume(2, 1), 4);
        x.finish(0);
        DUE.same("not entered", x.resume(2, 1), 6);
        ran(x, "enter", x.enter(2, 5, 10, 1), 8, 0, 1);
        DUE.same("entered", x.told(2, 2), 1);
        DUE.same("enter an entered one", x.enter(2, 5, 10, 1), 6);
        DUE.same("1 comes before 6", x.enter(2, 5, 10, 0), 1);
        DUE.same("1 comes before 6", x.resume(2, 2001), 1);
        DUE.same("it is entered still", x.told(2, 2), 1);
        ran(x, "resume", x.resume(2, 2), 8, 0, 2);
        ran(x, "resume to the end", x.resume(2, 2000), 0, 45, 2);
        DUE.same("left", x.told(2, 2), 0);
        DUE.same("not entered any more", x.resume(2, 1), 6);
        ran(x, "enter again begins at the entry", x.enter(2, 1, 1, 2000), 0, 5, 5);
    }

    private static void promise15KeepsAll() {
        int[] code = {
            Bench.op(1, 2, 0, 30), Bench.op(1, 3, 0, 40), Bench.op(2, 0, 1, 0), Bench.op(2, 0, 2, 0),
            Bench.op(2, 0, 3, 0), LEAVE,
        };
        PageMonitor x = Bench.building(code);
        x.thread(4, 0, 0);
        x.finish(0);
        x.enter(2, 10, 20, 1);
        x.enter(4, 1, 2, 2);
        for (int k = 0; k < 4; k++) {
            DUE.same("a step of one thread", x.resume(2, 1), 8);
            if (k < 3) {
                DUE.same("a step of the other", x.resume(4, 1), 8);
            }
        }
        ran(x, "the one", x.resume(2, 1), 0, 100, 1);
        ran(x, "the other", x.resume(4, 1), 0, 73, 1);
    }

    private static void promise16And17ResultAndSteps() {
        PageMonitor x = Bench.building(Bench.op(1, 0, 0, 9), Bench.op(14, 0, 0, 0));
        x.thread(4, 0, 100);
        x.finish(0);
        ran(x, "interrupted", x.enter(2, 0, 0, 1), 8, 0, 1);
        ran(x, "faulted", x.resume(2, 9), 9, 4, 1);
        DUE.same("a thread that faulted is not entered", x.told(2, 2), 0);
        DUE.same("resume behind a fault", x.resume(2, 9), 6);
        ran(x, "refused", x.enter(2, 0, 0, 0), 1, 4, 1);
        ran(x, "two steps, one faulted", x.enter(2, 0, 0, 2), 9, 4, 2);
        ran(x, "for want of a word", x.enter(4, 0, 0, 9), 9, 1, 1);
        ran(x, "interrupted", x.enter(2, 0, 0, 1), 8, 0, 1);
        ran(x, "refused", x.enter(2, 0, 0, 1), 6, 0, 1);
    }

    private static void stepsRunOut() {
        PageMonitor x = Bench.ready(Bench.op(1, 2, 0, 1), Bench.op(2, 0, 2, 0), Bench.op(8, 2, 0, -2));
        ran(x, "a loop for 2000 steps", x.enter(2, 0, 0, 2000), 8, 0, 2000);
        ran(x, "and 1999 more", x.resume(2, 1999), 8, 0, 1999);
        PageMonitor y = Bench.ready(Bench.op(1, 1, 0, 1), LEAVE);
        ran(y, "leaves with its last step", y.enter(2, 3, 0, 2), 0, 3, 2);
        PageMonitor z = Bench.ready(Bench.op(1, 1, 0, 1), Bench.op(15, 0, 0, 0));
        ran(z, "faults with its last step", z.enter(2, 3, 0, 2), 9, 4, 2);
        PageMonitor w = Bench.ready(Bench.op(8, 0, 0, 1000));
        ran(w, "jumps away with its last step", w.enter(2, 3, 0, 1), 8, 0, 1);
        ran(w, "and has nothing to do there", w.resume(2, 1), 9, 1, 1);
    }

    private static int does(int op, int a, int b) {
        PageMonitor x = Bench.ready(Bench.op(op, 0, 1, 0x7fff), LEAVE);
        DUE.same("op " + op, x.enter(2, a, b, 2), 0);
        return x.result();
    }

    private static void arithmetic() {
        int[] values = {0, 1, -1, 7, -13, 65537, HIGHEST, LOWEST, 0x55555555, 0x0ff0f00f};
        for (int a : values) {
            for (int b : values) {
                DUE.same(a + " + " + b, does(2, a, b), a + b);
                DUE.same(a + " - " + b, does(3, a, b), a - b);
                DUE.same(a + " * " + b, does(4, a, b), a * b);
                DUE.same(a + " & " + b, does(5, a, b), a & b);
            }
        }
        for (int op = 2; op <= 5; op++) {
            PageMonitor x = Bench.ready(Bench.op(op, 1, 1, 0), Bench.op(0, 1, 0, 0));
            x.enter(2, 0, 6, 2);
            DUE.same("op " + op + " with one register", x.result(), new int[] {12, 0, 36, 6}[op - 2]);
            PageMonitor y = Bench.ready(Bench.op(op, 0, 1, 0), Bench.op(0, 1, 0, 0));
            y.enter(2, 5, 6, 2);
            DUE.same("op " + op + " leaves rb", y.result(), 6);
        }
    }

    private static void immediates() {
        for (int i : new int[] {0, 1, -1, 255, 256, 0x7fffff, -0x800000}) {
            PageMonitor x = Bench.ready(Bench.op(1, 0, 3, i), LEAVE);
            x.enter(2, 9, 9, 2);
            DUE.same("i " + i, x.result(), i);
        }
    }

    private static void jumps() {
        int[] code = new int[16];
        for (int i = 0; i < 16; i++) {
            code[i] = i % 2 == 0 ? Bench.op(1, 1, 0, i) : Bench.op(0, 1, 0, 0);
        }
        for (int to = 0; to < 16; to += 2) {
            int[] jumping = code.clone();
            jumping[7] = Bench.op(8, 0, 0, to - 8);
            PageMonitor x = Bench.building(jumping);
            x.thread(4, 0, 7);
            x.finish(0);
            if (to == 6) {
                ran(x, "a loop", x.enter(4, LOWEST, 0, 3), 8, 0, 3);
                continue;
            }
            ran(x, "jump to " + to, x.enter(4, LOWEST, 0, 3), 0, to, 3);
            ran(x, "no jump", x.enter(4, 0, 1, 3), 0, 8, 3);
        }
        for (int i : new int[] {-9, -8388608, 504, 8388607}) {
            PageMonitor x = Bench.building(new int[] {0, 0, 0, 0, 0, 0, 0, Bench.op(8, 0, 0, i)});
            x.thread(4, 0, 7);
            x.finish(0);
            ran(x, "jump outside by " + i, x.enter(4, 1, 0, 9), 9, 1, 2);
        }
    }

    /** Code that loads rb + i, with data of rights 1 to 7 at blocks 1 to 7 and a frame at 8. */
    private static PageMonitor loader(int op, int i) {
        PageMonitor x = Bench.building(Bench.op(op, 0, 1, i), LEAVE);
        x.table(4, 0, 1);
        for (int rights = 1; rights <= 7; rights++) {
            Bench.fill(x, 0, rights * 100, 1, 2, 3, 4, 5, 6, 7, 8, 9, 10, 11, 12, 13, 14, rights * 100 + 15);
            x.data(4 + rights, 0, rights, rights, 0);
        }
        x.share(0, 8, 1, 0);
        x.finish(0);
        return x;
    }

    private static void loads() {
        for (int i : new int[] {0, 5, -3, 8388607, -8388608}) {
            PageMonitor x = loader(6, i);
            for (int rights = 1; rights <= 7; rights++) {
                if ((rights & 1) != 0) {
                    ran(x, "first word", x.enter(2, 1, rights * 16 - i, 9), 0, rights * 100, 2);
                    ran(x, "last word", x.enter(2, 1, rights * 16 + 15 - i, 9), 0, rights * 100 + 15, 2);
                } else {
                    ran(x, "no right to read", x.enter(2, 1, rights * 16 - i, 9), 9, 2, 1);
                    ran(x, "no right to read", x.enter(2, 1, rights * 16 + 15 - i, 9), 9, 2, 1);
                }
            }
            ran(x, "a frame", x.enter(2, 1, 128 - i, 9), 0, 700, 2);
            ran(x, "code has no right to be read", x.enter(2, 1, 15 - i, 9), 9, 2, 1);
            for (int address : new int[] {-1, 144, 255, 256, 511, 512, LOWEST, HIGHEST, -16, 1024 + 16}) {
                ran(x, "nothing at " + address, x.enter(2, 1, address - i, 9), 9, 2, 1);
            }
        }
    }

    private static void saves() {
        PageMonitor x = loader(7, 2);
        for (int rights = 1; rights <= 7; rights++) {
            boolean may = (rights & 2) != 0;
            ran(x, "save with rights " + rights, x.enter(2, 55, rights * 16, 9), may ? 0 : 9, may ? 55 : 3, may ? 2 : 1);
        }
        for (int address : new int[] {-1, 0, 128, 144, 511, 512, LOWEST, HIGHEST}) {
            ran(x, "no right to write at " + address, x.enter(2, 1, address - 2, 9), 9, 3, 1);
        }
        PageMonitor y = Bench.building(Bench.op(7, 0, 1, 0), Bench.op(6, 2, 1, 0), Bench.op(0, 2, 0, 0));
        y.data(4, 0, 1, 3, 6);
        y.share(0, 2, 3, 6);
        y.finish(0);
        for (int address = 16; address < 48; address++) {
            ran(y, "save and load", y.enter(2, -address, address, 3), 0, -address, 3);
        }
        for (int i = 0; i < 16; i++) {
            DUE.same("the frame's words", y.peek(6, i), -32 - i);
        }
        PageMonitor z = Bench.building();
        Bench.fill(z, 5, Bench.op(7, 0, 1, 0), Bench.op(15, 0, 0, 0));
        z.data(4, 0, 1, 6, 5);
        z.thread(5, 0, 16);
        z.finish(0);
        ran(z, "code that writes its next instruction", z.enter(5, Bench.op(0, 1, 0, 0), 17, 9), 0, 17, 2);
    }

    private static void placesWithoutInstructions() {
        PageMonitor x = Bench.building(Bench.op(1, 1, 0, 1), 0, 0, 0, 0, 0, 0, 0, 0, 0, 0, 0, 0, 0, 0,
            Bench.op(1, 1, 0, 3));
        x.table(4, 0, 3);
        Bench.fill(x, 0, 0, 0, 0, 0, 0, 0, 0, 0, 0, 0, 0, 0, 0, 0, 0, Bench.op(1, 1, 0, 1));
        x.data(5, 0, 31, 4, 0);
        x.thread(6, 0, 15);
        x.thread(7, 0, 511);
        x.thread(8, 0, 128);
        x.data(9, 0, 2, 3, 0);
        x.thread(10, 0, 32);
        x.share(0, 3, 3, 0);
        x.thread(11, 0, 48);
        x.finish(0);
        ran(x, "goes on into an empty entry", x.enter(6, 0, 0, 9), 9, 1, 2);
        ran(x, "goes on behind the last address", x.enter(7, 0, 0, 9), 9, 1, 2);
        ran(x, "where no table is", x.enter(8, 0, 0, 9), 9, 1, 1);
        ran(x, "data without the right 4", x.enter(10, 0, 0, 9), 9, 1, 1);
        ran(x, "a frame never has the right 4", x.enter(11, 0, 0, 9), 9, 1, 1);
        DUE.same("faulted threads are not entered", x.told(11, 2), 0);
    }

    private static void unknownInstructions() {
        for (int op = 14; op <= 15; op++) {
            PageMonitor x = Bench.ready(Bench.op(op, 1, 2, 3));
            ran(x, "op " + op, x.enter(2, 5, 5, 9), 9, 4, 1);
        }
    }

    private static PageMonitor withSpares(int... code) {
        PageMonitor x = Bench.building(code);
        Bench.fill(x, 0, 5, 5, 5, 5, 5, 5, 5, 5, 5, 5, 5, 5, 5, 5, 5, 5);
        x.data(4, 0, 1, 3, 0);
        x.share(0, 2, 3, 0);
        x.share(0, 3, 1, 7);
        x.spare(5, 0);
        x.spare(19, 0);
        x.space(10);
        x.spare(11, 10);
        x.finish(0);
        return x;
    }

    private static void spareBecomesData() {
        for (int rights = 1; rights <= 7; rights++) {
            PageMonitor x = withSpares(Bench.op(12, 0, 1, rights + 8), LEAVE);
            ran(x, "rights " + rights, x.enter(2, 5, 7, 9), 0, 0, 2);
            DUE.same("it is data", x.told(5, 0), 4);
            DUE.same("it belongs to the space", x.told(5, 1), 0);
            DUE.same("the space has as many pages", x.told(0, 3), 6);
            DUE.same("data is not removed", x.remove(5), 4);
            ran(x, "the entry isn't empty now", x.enter(2, 19, 7, 9), 0, 1, 2);
            ran(x, "it isn't spare now", x.enter(2, 5, 6, 9), 0, 1, 2);
            DUE.same("the measure stays", x.measure(0, 0),
                withSpares(Bench.op(12, 0, 1, rights + 8), LEAVE).measure(0, 0));
        }
        int[] code = {
            Bench.op(12, 0, 1, 3), Bench.op(7, 1, 2, 64), Bench.op(6, 0, 2, 65), LEAVE,
        };
        PageMonitor x = withSpares(code);
        ran(x, "write and read what was spare", x.enter(2, 5, 4, 9), 0, 0, 4);
        PageMonitor y = withSpares(Bench.op(12, 2, 2, 7), Bench.op(0, 2, 0, 0));
        ran(y, "one register for page and block: page 0 is no spare one", y.enter(2, 0, 0, 9), 0, 1, 2);
        PageMonitor z = withSpares(Bench.op(12, 1, 1, 7), Bench.op(0, 1, 0, 0));
        ran(z, "one register for page and block 5", z.enter(2, 0, 5, 9), 0, 0, 2);
    }

    private static void spareIsRefused() {
        int[][] pagesAndBlocks = {
            {-1, 7}, {20, 7}, {LOWEST, 7}, {HIGHEST, 7}, {0, 7}, {1, 7}, {2, 7}, {3, 7}, {4, 7}, {10, 7},
            {11, 7}, {12, 7}, {5, -1}, {5, 32}, {5, LOWEST}, {5, HIGHEST}, {5, 8}, {5, 31}, {5, 0}, {5, 1}, {5, 2}, {5, 3},
        };
        PageMonitor x = withSpares(Bench.op(12, 0, 1, 7), LEAVE);
        for (int[] w : pagesAndBlocks) {
            ran(x, "page " + w[0] + " at block " + w[1], x.enter(2, w[0], w[1], 9), 0, 1, 2);
        }
        DUE.same("5 is spare still", x.told(5, 0), 5);
        DUE.same("11 is spare still", x.told(11, 0), 5);
        for (int i : new int[] {0, 8, -8}) {
            PageMonitor y = withSpares(Bench.op(12, 0, 1, i), LEAVE);
            ran(y, "rights 0 by i " + i, y.enter(2, 5, 7, 9), 0, 1, 2);
            DUE.same("it is spare still", y.told(5, 0), 5);
        }
        PageMonitor z = withSpares(Bench.op(12, 0, 1, -1), LEAVE);
        ran(z, "rights 7 by i -1", z.enter(2, 5, 7, 9), 0, 0, 2);
    }

    private static void dataBecomesSpare() {
        PageMonitor x = withSpares(Bench.op(13, 0, 1, 0), LEAVE);
        for (int block : new int[] {-1, 32, LOWEST, HIGHEST, 2, 3, 4, 7, 8, 31}) {
            ran(x, "no data at block " + block, x.enter(2, 0, block, 9), 0, -1, 2);
        }
        ran(x, "data at block 1", x.enter(2, 0, 1, 9), 0, 4, 2);
        DUE.same("it is spare", x.told(4, 0), 5);
        DUE.same("of its space", x.told(4, 1), 0);
        ran(x, "the entry is empty", x.enter(2, 0, 1, 9), 0, -1, 2);
        DUE.same("a spare page can be removed", x.remove(4), 0);

        int[] code = {
            Bench.op(13, 0, 1, 0), Bench.op(12, 0, 1, 1), Bench.op(6, 2, 3, 16), Bench.op(6, 3, 3, 31),
            Bench.op(2, 2, 3, 0), Bench.op(0, 2, 0, 0),
        };
        PageMonitor y = withSpares(code);
        ran(y, "data that was spare between has words 0", y.enter(2, 0, 1, 9), 0, 0, 6);
        DUE.same("data again", y.told(4, 0), 4);
        PageMonitor z = withSpares(Bench.op(13, 1, 1, 0), Bench.op(6, 0, 2, 16), LEAVE);
        ran(z, "what is spare is not read", z.enter(2, 0, 1, 9), 9, 2, 2);
        DUE.same("what was done before the fault stays", z.told(4, 0), 5);
    }

    private static void codeThatGoesAway() {
        PageMonitor x = Bench.ready(Bench.op(13, 0, 1, 0), LEAVE);
        ran(x, "the code's own page", x.enter(2, 0, 0, 9), 9, 1, 2);
        DUE.same("it is spare", x.told(3, 0), 5);
        ran(x, "nothing to do any more", x.enter(2, 0, 0, 9), 9, 1, 1);
    }
}
