/**
 * Promises 14 to 17: enter, resume, result, steps. Each comment names the promise and, between quotes,
 * the words of the document that are tested. What the instructions do is tested in InstructionTest.
 */
public final class RunTest {
    private static final Due DUE = new Due("RunTest");
    private static final int LOWEST = Bench.LOWEST;
    private static final int HIGHEST = Bench.HIGHEST;
    private static final int LEAVE = Bench.LEAVE;
    private static final int MORE = Bench.op(2, 0, 1, 0);
    private static final int[] WRONG_STEPS = {LOWEST, -2000, -1, 0, 2001, 2002, HIGHEST};

    public static void main(String[] args) {
        promise14NoSuchPageOrSteps();
        promise14NoThread();
        promise14NotFinished();
        promise14Entered();
        promise14BeginsAtItsEntry();
        promise14Registers();
        promise14OtherRegistersAreZero();
        promise14AtMostSteps();
        promise15NoSuchPageOrSteps();
        promise15NoThread();
        promise15NotFinished();
        promise15NotEntered();
        promise15GoesOn();
        promise15KeepsAllOfEachThread();
        promise15KeepsThePlace();
        promise15AtMostSteps();
        promise15OtherCallsBetween();
        interrupted();
        interruptedOrLeft();
        interruptedOrFaulted();
        promise16OfTheLastRun();
        promise16RefusedRuns();
        promise16OtherCalls();
        promise17HowMany();
        promise17OneThatFaulted();
        promise17RefusedRuns();
        DUE.end();
    }

    /** Promise 14: "(1: steps is not 1 to 2000)", and "1 a page" out of its range. */
    private static void promise14NoSuchPageOrSteps() {
        for (int page : Bench.outside(19)) {
            DUE.same("enter(" + page + ", 0, 0, 1)", World.make().enter(page, 0, 0, 1), 1);
        }
        for (int steps : WRONG_STEPS) {
            PageMonitor x = World.make();
            DUE.ran(x, "enter for " + steps + " steps", x.enter(World.LEFT, 20, 2, steps), 1, 1, 2);
            DUE.same("it is not entered", x.told(World.LEFT, 2), 0);
        }
        for (int steps : new int[] {1, 2, 1999, 2000}) {
            PageMonitor x = Bench.ready(LEAVE);
            DUE.ran(x, "enter for " + steps + " steps", x.enter(2, steps, 0, steps), 0, steps, 1);
        }
    }

    /** Promise 14: "3 what ought to be a space, or thread, is none." Pages of every other kind. */
    private static void promise14NoThread() {
        for (int page : World.NO_THREADS) {
            PageMonitor x = World.make();
            DUE.ran(x, "enter(" + page + ", 0, 0, 1), no thread", x.enter(page, 0, 0, 1), 3, 1, 2);
        }
    }

    /** Promise 14: "of a finished space"; "Of a thread, the state is that of its space." */
    private static void promise14NotFinished() {
        PageMonitor x = Bench.building(LEAVE);
        DUE.ran(x, "enter() in a space that is built", x.enter(2, 7, 0, 1), 4, 0, 0);
        x.finish(0);
        DUE.ran(x, "enter() in a finished space", x.enter(2, 7, 0, 1), 0, 7, 1);
        x.stop(0);
        DUE.ran(x, "enter() in a stopped space", x.enter(2, 8, 0, 1), 4, 7, 1);
        PageMonitor y = Bench.building(LEAVE);
        y.stop(0);
        DUE.ran(y, "enter() in a space that never was finished", y.enter(2, 8, 0, 1), 4, 0, 0);
    }

    /** Promise 14: "A thread that isn't entered"; "6 the thread is entered (or, for resume, is not)." */
    private static void promise14Entered() {
        PageMonitor x = Bench.ready(MORE, LEAVE);
        DUE.ran(x, "enter", x.enter(2, 5, 10, 1), 8, 0, 1);
        DUE.ran(x, "enter() of an entered one", x.enter(2, 6, 20, 2000), 6, 0, 1);
        DUE.same("it is entered still", x.told(2, 2), 1);
        DUE.ran(x, "with what it had kept", x.resume(2, 1), 0, 15, 1);
        DUE.ran(x, "enter() of one that has left", x.enter(2, 6, 20, 9), 0, 26, 2);
        DUE.same("it is not entered", x.told(2, 2), 0);
        PageMonitor y = Bench.ready(Bench.op(8, 0, 0, 1), LEAVE, Bench.op(15, 0, 0, 0));
        DUE.ran(y, "enter", y.enter(2, 1, 0, 9), 9, 4, 2);
        DUE.ran(y, "enter() of one that has faulted", y.enter(2, 0, 0, 9), 0, 0, 2);
    }

    /** Promise 14: "begins at its entry", whatever it did before; "threads have an ENTRY", each its own. */
    private static void promise14BeginsAtItsEntry() {
        int[] code = new int[16];
        for (int i = 0; i < 16; i += 2) {
            code[i] = Bench.op(1, 0, 0, i);
        }
        PageMonitor x = Bench.building(code);
        for (int k = 1; k < 8; k++) {
            x.thread(10 + k, 0, 2 * k);
        }
        x.finish(0);
        for (int again = 0; again < 2; again++) {
            for (int k = 1; k < 8; k++) {
                DUE.ran(x, "the entry " + 2 * k, x.enter(10 + k, 99, 0, 9), 0, 2 * k, 2);
            }
            DUE.ran(x, "the entry 0", x.enter(2, 99, 0, 9), 0, 0, 2);
        }
    }

    /** Promise 14: "with a and b in registers 0 and 1". Words at their ends, too. */
    private static void promise14Registers() {
        PageMonitor x = Bench.building(LEAVE, Bench.op(0, 1, 0, 0));
        x.thread(4, 0, 1);
        x.finish(0);
        int[] values = {0, 1, -1, 0x01020304, LOWEST, HIGHEST};
        for (int a : values) {
            for (int b : values) {
                DUE.ran(x, "a in register 0", x.enter(2, a, b, 1), 0, a, 1);
                DUE.ran(x, "b in register 1", x.enter(4, a, b, 1), 0, b, 1);
            }
        }
    }

    /** Promise 14: "and 0 in the others", also when they were something else when it left or faulted. */
    private static void promise14OtherRegistersAreZero() {
        int six = Bench.op(1, 2, 0, 6);
        int seven = Bench.op(1, 3, 0, 7);
        int[] code = {
            Bench.op(8, 0, 0, 4), six, seven, Bench.op(8, 1, 0, 4), LEAVE,
            Bench.op(2, 2, 3, 0), Bench.op(0, 2, 0, 0), 0, Bench.op(15, 0, 0, 0),
        };
        PageMonitor x = Bench.ready(code);
        DUE.ran(x, "others of a new thread", x.enter(2, 1, 0, 9), 0, 0, 3);
        DUE.ran(x, "leaves with others 6 and 7", x.enter(2, 0, 0, 9), 0, 0, 5);
        DUE.ran(x, "others of one that has left", x.enter(2, 1, 0, 9), 0, 0, 3);
        DUE.ran(x, "faults with others 6 and 7", x.enter(2, 0, 1, 9), 9, 4, 5);
        DUE.ran(x, "others of one that has faulted", x.enter(2, 1, 0, 9), 0, 0, 3);
    }

    /** Takes 2 * a + 2 instructions from entry 0 (thread 2), one less from entry 1 (thread 4), if b is 1. */
    private static PageMonitor countdown() {
        PageMonitor x = Bench.building(Bench.op(1, 2, 0, 5), Bench.op(3, 0, 1, 0), Bench.op(8, 0, 0, -2),
            Bench.op(0, 1, 0, 0));
        x.thread(4, 0, 1);
        x.finish(0);
        return x;
    }

    /** Promise 14: "for at most steps instructions". One too few, just enough and more, up to 2000. */
    private static void promise14AtMostSteps() {
        PageMonitor x = countdown();
        for (int[] w : new int[][] {{4, 1, 3}, {2, 1, 4}, {4, 50, 101}, {4, 999, 1999}, {2, 999, 2000}}) {
            int thread = w[0];
            int needs = w[2];
            DUE.ran(x, "one step too few", x.enter(thread, w[1], 1, needs - 1), 8, 0, needs - 1);
            DUE.ran(x, "the last step", x.resume(thread, 1), 0, 1, 1);
            DUE.ran(x, "just enough steps", x.enter(thread, w[1], 1, needs), 0, 1, needs);
            DUE.ran(x, "2000 steps", x.enter(thread, w[1], 1, 2000), 0, 1, needs);
        }
        DUE.ran(x, "2000 steps of 2002", x.enter(2, 1000, 1, 2000), 8, 0, 2000);
        DUE.ran(x, "the 2001st", x.resume(2, 1), 8, 0, 1);
        DUE.ran(x, "the 2002nd", x.resume(2, 1), 0, 1, 1);
        DUE.ran(x, "one step", x.enter(2, 1000, 1, 1), 8, 0, 1);
    }

    /** Promise 15: "(1: steps is not 1 to 2000)", and "1 a page" out of its range. */
    private static void promise15NoSuchPageOrSteps() {
        for (int page : Bench.outside(19)) {
            DUE.same("resume(" + page + ", 1)", World.make().resume(page, 1), 1);
        }
        for (int steps : WRONG_STEPS) {
            PageMonitor x = World.make();
            DUE.ran(x, "resume for " + steps + " steps", x.resume(World.ENTERED, steps), 1, 1, 2);
            DUE.same("it is entered still", x.told(World.ENTERED, 2), 1);
        }
        for (int steps : new int[] {1, 2, 1999, 2000}) {
            PageMonitor x = Bench.ready(MORE, LEAVE);
            x.enter(2, steps, 3, 1);
            DUE.ran(x, "resume for " + steps + " steps", x.resume(2, steps), 0, steps + 3, 1);
        }
    }

    /** Promise 15: "3 what ought to be a space, or thread, is none." Pages of every other kind. */
    private static void promise15NoThread() {
        for (int page : World.NO_THREADS) {
            PageMonitor x = World.make();
            DUE.ran(x, "resume(" + page + ", 1), no thread", x.resume(page, 1), 3, 1, 2);
        }
    }

    /** Promise 15: "An entered thread of a finished space"; 4 comes before 6. */
    private static void promise15NotFinished() {
        PageMonitor x = Bench.building(MORE, MORE, LEAVE);
        DUE.ran(x, "resume() in a space that is built", x.resume(2, 1), 4, 0, 0);
        x.finish(0);
        x.enter(2, 7, 1, 1);
        DUE.ran(x, "resume() in a finished space", x.resume(2, 1), 8, 0, 1);
        x.stop(0);
        DUE.ran(x, "resume() in a stopped space", x.resume(2, 1), 4, 0, 1);
        DUE.same("it is not entered", x.told(2, 2), 0);
    }

    /** Promise 15: "6 the thread is entered (or, for resume, is not)." New, left, or faulted. */
    private static void promise15NotEntered() {
        PageMonitor x = Bench.ready(Bench.op(8, 0, 0, 1), LEAVE, Bench.op(15, 0, 0, 0));
        DUE.ran(x, "resume() of a new thread", x.resume(2, 1), 6, 0, 0);
        x.enter(2, 0, 0, 9);
        DUE.ran(x, "resume() of one that has left", x.resume(2, 1), 6, 0, 2);
        x.enter(2, 1, 0, 9);
        DUE.ran(x, "resume() of one that has faulted", x.resume(2, 1), 6, 4, 2);
        x.enter(2, 0, 0, 1);
        DUE.ran(x, "resume() of an entered one", x.resume(2, 1), 0, 0, 1);
        DUE.ran(x, "resume() of one that has left then", x.resume(2, 1), 6, 0, 1);
        x.enter(2, 1, 0, 1);
        DUE.ran(x, "resume() of an entered one that faults", x.resume(2, 1), 9, 4, 1);
        DUE.ran(x, "resume() of one that has faulted then", x.resume(2, 1), 6, 4, 1);
    }

    /** Promise 15: "An entered thread of a finished space goes on". */
    private static void promise15GoesOn() {
        PageMonitor x = Bench.ready(MORE, MORE, MORE, MORE, LEAVE);
        DUE.ran(x, "enter", x.enter(2, 5, 10, 1), 8, 0, 1);
        DUE.same("it is entered", x.told(2, 2), 1);
        DUE.ran(x, "resume", x.resume(2, 2), 8, 0, 2);
        DUE.same("it is entered still", x.told(2, 2), 1);
        DUE.ran(x, "resume to the end", x.resume(2, 2000), 0, 45, 2);
        DUE.same("it is not entered any more", x.told(2, 2), 0);
        DUE.ran(x, "entered again it begins at its entry", x.enter(2, 1, 1, 2000), 0, 5, 5);
    }

    /** Promise 15: "its registers and place are kept". All four, of each of two threads at once. */
    private static void promise15KeepsAllOfEachThread() {
        int[] code = {
            Bench.op(1, 2, 0, 30), Bench.op(1, 3, 0, 40), Bench.op(2, 0, 1, 0), Bench.op(2, 0, 2, 0),
            Bench.op(2, 0, 3, 0), LEAVE,
        };
        PageMonitor x = Bench.building(code);
        x.thread(4, 0, 0);
        x.finish(0);
        x.enter(2, 10, 20, 1);
        x.enter(4, 1, 2, 2);
        for (int k = 0; k < 4; k++) {
            DUE.same("a step of the one", x.resume(2, 1), 8);
            if (k < 3) {
                DUE.same("a step of the other", x.resume(4, 1), 8);
            }
        }
        DUE.ran(x, "the one", x.resume(2, 1), 0, 100, 1);
        DUE.ran(x, "the other", x.resume(4, 1), 0, 73, 1);
    }

    /** Promise 15: "its registers and place are kept", also a place where nothing is. */
    private static void promise15KeepsThePlace() {
        PageMonitor x = new PageMonitor();
        x.space(0);
        x.table(1, 0, 3);
        int[] code = new int[16];
        code[14] = Bench.op(8, 0, 1, -512);
        code[15] = Bench.op(8, 1, 0, 8388607);
        Bench.data(x, 2, 0, 31, 4, code);
        x.thread(3, 0, 510);
        x.thread(4, 0, 511);
        x.finish(0);
        DUE.ran(x, "goes on behind 511", x.enter(4, 0, 0, 1), 8, 0, 1);
        DUE.same("it is entered", x.told(4, 2), 1);
        DUE.ran(x, "nothing is at 512", x.resume(4, 1), 9, 1, 1);
        DUE.ran(x, "goes on far behind 511", x.enter(4, 0, 1, 1), 8, 0, 1);
        DUE.ran(x, "nothing is there", x.resume(4, 2000), 9, 1, 1);
        DUE.ran(x, "goes on to -1", x.enter(3, 1, 0, 1), 8, 0, 1);
        DUE.ran(x, "nothing is at -1", x.resume(3, 1), 9, 1, 1);
        DUE.same("it is not entered", x.told(3, 2), 0);
    }

    /** Promise 15: "for at most steps instructions". One too few, just enough and more, up to 2000. */
    private static void promise15AtMostSteps() {
        PageMonitor x = countdown();
        for (int[] w : new int[][] {{4, 1, 3}, {2, 1, 4}, {4, 50, 101}, {2, 999, 2000}, {4, 1000, 2001}}) {
            int thread = w[0];
            int rest = w[2] - 1;
            x.enter(thread, w[1], 1, 1);
            DUE.ran(x, "just enough steps", x.resume(thread, rest), 0, 1, rest);
            x.enter(thread, w[1], 1, 1);
            DUE.ran(x, "2000 steps", x.resume(thread, 2000), 0, 1, rest);
            x.enter(thread, w[1], 1, 1);
            DUE.ran(x, "one step too few", x.resume(thread, rest - 1), 8, 0, rest - 1);
            DUE.ran(x, "the last step", x.resume(thread, 1), 0, 1, 1);
        }
        x.enter(2, 1000, 1, 1);
        DUE.ran(x, "2000 steps of 2001", x.resume(2, 2000), 8, 0, 2000);
        DUE.ran(x, "the last step", x.resume(2, 1), 0, 1, 1);
    }

    /**
     * Promise 15: "and perhaps are ENTERED, with what they have kept", whatever else the system asks for
     * between.
     */
    private static void promise15OtherCallsBetween() {
        PageMonitor x = Bench.building(MORE, Bench.op(6, 2, 0, 0), Bench.op(2, 0, 2, 0), LEAVE);
        x.share(0, 1, 1, 2);
        x.finish(0);
        DUE.same("enter", x.enter(2, 10, 6, 1), 8);
        x.poke(2, 0, 500);
        x.space(4);
        x.thread(5, 4, 9);
        x.spare(6, 0);
        x.remove(6);
        x.stop(4);
        x.remove(5);
        x.remove(4);
        x.enter(2, 1, 1, 1);
        x.enter(3, 1, 1, 1);
        x.finish(0);
        DUE.told(x, 2, 2, 0, 1, 0);
        DUE.ran(x, "resume", x.resume(2, 9), 0, 516, 3);
    }

    /**
     * Promises 14 and 15: "8 it was interrupted"; "It is INTERRUPTED behind so many instructions as are told:
     * its registers and place are kept, it is entered; the result is 0 then."
     */
    private static void interrupted() {
        for (int steps = 1; steps <= 5; steps++) {
            PageMonitor x = Bench.building(Bench.op(7, 0, 0, 0), MORE, Bench.op(7, 0, 0, 0), MORE,
                Bench.op(7, 0, 0, 0), LEAVE);
            x.share(0, 1, 3, 1);
            x.finish(0);
            DUE.ran(x, "interrupted behind " + steps, x.enter(2, 16, 1, steps), 8, 0, steps);
            DUE.told(x, 2, 2, 0, 1, 0);
            for (int k = 0; k < 3; k++) {
                DUE.same("what it has written of " + k, x.peek(1, k), steps > 2 * k ? 16 + k : 0);
            }
        }
    }

    /** Promises 14 and 15: "and 0 if it left", also with the last instruction that it may do. */
    private static void interruptedOrLeft() {
        PageMonitor x = Bench.ready(Bench.op(1, 1, 0, 1), LEAVE);
        DUE.ran(x, "leaves with its last step", x.enter(2, 3, 0, 2), 0, 3, 2);
        DUE.same("it is not entered", x.told(2, 2), 0);
        DUE.ran(x, "is interrupted before", x.enter(2, 3, 0, 1), 8, 0, 1);
        DUE.same("it is entered", x.told(2, 2), 1);
        DUE.ran(x, "leaves with its only step", x.resume(2, 1), 0, 3, 1);
    }

    /** Promises 14 and 15: "9 it faulted", also with the last instruction that it may do. */
    private static void interruptedOrFaulted() {
        PageMonitor x = Bench.ready(Bench.op(1, 1, 0, 1), Bench.op(15, 0, 0, 0));
        DUE.ran(x, "faults with its last step", x.enter(2, 3, 0, 2), 9, 4, 2);
        DUE.same("it is not entered", x.told(2, 2), 0);
        DUE.ran(x, "is interrupted before", x.enter(2, 3, 0, 1), 8, 0, 1);
        DUE.ran(x, "faults with its only step", x.resume(2, 1), 9, 4, 1);
    }

    /**
     * Promise 16: "What the last enter() or resume() that answered 0, 8 or 9 came to."; "A fault's number, or
     * what it left with, is the RESULT."
     */
    private static void promise16OfTheLastRun() {
        PageMonitor x = Bench.building(MORE, LEAVE, Bench.op(14, 0, 0, 0));
        x.thread(4, 0, 2);
        x.thread(5, 0, 511);
        x.finish(0);
        for (int v : new int[] {7, -1, 0, LOWEST, HIGHEST}) {
            DUE.ran(x, "enter() left with " + v, x.enter(2, v, 0, 9), 0, v, 2);
            DUE.ran(x, "enter() was interrupted", x.enter(2, v, 0, 1), 8, 0, 1);
            DUE.ran(x, "resume() left with " + v, x.resume(2, 1), 0, v, 1);
            DUE.ran(x, "enter() faulted", x.enter(4, v, 0, 9), 9, 4, 1);
            DUE.ran(x, "enter() was interrupted", x.enter(2, v, 0, 1), 8, 0, 1);
            DUE.ran(x, "enter() of another one faulted", x.enter(5, v, 0, 9), 9, 1, 1);
            DUE.ran(x, "resume() left with " + v, x.resume(2, 9), 0, v, 1);
        }
        DUE.same("result() again", x.result(), HIGHEST);
    }

    private static void refusedRuns(PageMonitor x, int result, int steps) {
        DUE.ran(x, "1, no page", x.enter(20, 5, 5, 1), 1, result, steps);
        DUE.ran(x, "1, no steps", x.enter(2, 5, 5, 0), 1, result, steps);
        DUE.ran(x, "1, no page", x.resume(-1, 1), 1, result, steps);
        DUE.ran(x, "1, too many steps", x.resume(2, 2001), 1, result, steps);
        DUE.ran(x, "3", x.enter(3, 5, 5, 1), 3, result, steps);
        DUE.ran(x, "3", x.resume(3, 1), 3, result, steps);
        DUE.ran(x, "4", x.enter(12, 5, 5, 1), 4, result, steps);
        DUE.ran(x, "4", x.resume(12, 1), 4, result, steps);
    }

    private static PageMonitor withAnotherThread() {
        PageMonitor x = Bench.building(MORE, LEAVE, MORE, MORE, Bench.op(15, 0, 0, 0));
        x.thread(4, 0, 2);
        x.finish(0);
        x.space(11);
        x.thread(12, 11, 0);
        return x;
    }

    /** Promise 16: the last "that answered 0, 8 or 9": what was refused since does not count. */
    private static void promise16RefusedRuns() {
        PageMonitor x = withAnotherThread();
        refusedRuns(x, 0, 0);
        DUE.ran(x, "left", x.enter(2, 30, 3, 9), 0, 33, 2);
        refusedRuns(x, 33, 2);
        DUE.ran(x, "6, not entered", x.resume(2, 1), 6, 33, 2);
        DUE.ran(x, "faulted", x.enter(4, 1, 1, 9), 9, 4, 3);
        refusedRuns(x, 4, 3);
        DUE.ran(x, "interrupted", x.enter(2, 1, 1, 1), 8, 0, 1);
        refusedRuns(x, 0, 1);
        DUE.ran(x, "6, entered", x.enter(2, 1, 1, 9), 6, 0, 1);
    }

    /** Promises 16 and 17: no other call of the system but key() changes what they tell. */
    private static void promise16OtherCalls() {
        PageMonitor x = withAnotherThread();
        DUE.ran(x, "left", x.enter(2, 30, 3, 9), 0, 33, 2);
        x.poke(0, 0, 1);
        x.peek(0, 0);
        x.space(5);
        x.table(6, 5, 0);
        x.thread(7, 5, 0);
        x.data(8, 5, 0, 7, 0);
        x.share(5, 1, 1, 0);
        x.spare(9, 5);
        x.finish(5);
        x.measure(5, 0);
        x.told(5, 0);
        x.stop(5);
        x.remove(9);
        x.stop(0);
        DUE.same("result()", x.result(), 33);
        DUE.same("steps()", x.steps(), 2);
    }

    /** Promise 17: "How many instructions that did". From 1 to 2000, of enter() and of resume() alone. */
    private static void promise17HowMany() {
        PageMonitor x = Bench.ready(Bench.op(1, 2, 0, 1), Bench.op(2, 0, 2, 0), Bench.op(8, 2, 0, -2));
        DUE.ran(x, "a loop for one step", x.enter(2, 0, 0, 1), 8, 0, 1);
        DUE.ran(x, "for 2000", x.resume(2, 2000), 8, 0, 2000);
        DUE.ran(x, "for 1999", x.resume(2, 1999), 8, 0, 1999);
        DUE.ran(x, "for one more", x.resume(2, 1), 8, 0, 1);
        PageMonitor y = Bench.ready(LEAVE);
        DUE.ran(y, "one that left at once, of 2000", y.enter(2, 9, 0, 2000), 0, 9, 1);
        PageMonitor z = Bench.ready(MORE, MORE, MORE, LEAVE);
        DUE.ran(z, "one that left, of 2000", z.enter(2, 9, 0, 2000), 0, 9, 4);
    }

    /** Promise 17: "(one that faulted, too, also for want of its word)". */
    private static void promise17OneThatFaulted() {
        PageMonitor x = Bench.building(Bench.op(1, 0, 0, 9), Bench.op(14, 0, 0, 0));
        x.thread(4, 0, 100);
        x.thread(5, 0, 1);
        x.thread(6, 0, 511);
        Bench.data(x, 7, 0, 1, 4, 1, 1, 1, 1, 1, 1, 1, 1, 1, 1, 1, 1, 1, 1, 1, 1);
        x.thread(8, 0, 16);
        x.finish(0);
        DUE.ran(x, "faulted with the first", x.enter(5, 0, 0, 9), 9, 4, 1);
        DUE.ran(x, "faulted with the second", x.enter(2, 0, 0, 9), 9, 4, 2);
        DUE.ran(x, "for want of the first word", x.enter(4, 0, 0, 9), 9, 1, 1);
        DUE.ran(x, "for want of the first word, one step", x.enter(6, 0, 0, 1), 9, 1, 1);
        DUE.ran(x, "for want of the 17th word", x.enter(8, 0, 0, 2000), 9, 1, 17);
        DUE.ran(x, "for want of the 17th word, 17 steps", x.enter(8, 0, 0, 17), 9, 1, 17);
        DUE.ran(x, "interrupted before", x.enter(8, 0, 0, 16), 8, 0, 16);
        DUE.ran(x, "for want of the next word", x.resume(8, 5), 9, 1, 1);
    }

    /** Promise 17: "How many instructions that did": the run of which result() tells, none refused. */
    private static void promise17RefusedRuns() {
        PageMonitor x = withAnotherThread();
        DUE.ran(x, "left", x.enter(2, 30, 3, 2000), 0, 33, 2);
        DUE.ran(x, "refused", x.enter(2, 0, 0, 2001), 1, 33, 2);
        DUE.ran(x, "faulted", x.enter(4, 0, 0, 2000), 9, 4, 3);
        DUE.ran(x, "refused", x.resume(4, 1), 6, 4, 3);
    }
}
