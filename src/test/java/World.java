/**
 * An object that has a space in every state and pages of every kind, to try calls on; and ways to go
 * on with it, each of which tells all its answers: whatever a call has changed shows in one of them.
 */
final class World {
    /** A space that is built: data at block 0, frame 0 shared at block 1, no table behind place 0. */
    static final int BUILT = 0;
    static final int BUILT_TABLE = 1;
    static final int BUILT_THREAD = 2;
    static final int BUILT_DATA = 3;
    static final int BUILT_SPARE = 4;
    /** A finished one: its code at block 0, frame 1 shared at block 1. */
    static final int FINISHED = 5;
    static final int FINISHED_TABLE = 6;
    static final int ENTERED = 7;
    static final int LEFT = 8;
    static final int FINISHED_DATA = 9;
    static final int FINISHED_SPARE = 10;
    /** A stopped one that was finished, and whose thread was entered then. */
    static final int STOPPED = 11;
    static final int STOPPED_TABLE = 12;
    static final int STOPPED_THREAD = 13;
    static final int STOPPED_DATA = 14;
    static final int STOPPED_SPARE = 15;
    /** A stopped one to which no page belongs, and which never was finished. */
    static final int BARE = 16;
    static final int FREE = 17;
    static final int FREE_TOO = 18;
    static final int LAST_FREE = 19;

    static final int[] KINDS = {1, 3, 2, 4, 5, 1, 3, 2, 2, 4, 5, 1, 3, 2, 4, 5, 1, 0, 0, 0};
    static final int[] OWNERS = {-1, 0, 0, 0, 0, -1, 5, 5, 5, 5, 5, -1, 11, 11, 11, 11, -1, -1, -1, -1};
    /** Of a page that belongs to a space, the state is that of the space. */
    static final int[] STATES = {0, 0, 0, 0, 0, 1, 1, 1, 1, 1, 1, 2, 2, 2, 2, 2, 2, -1, -1, -1};

    static final int[] NO_SPACES = {1, 2, 3, 4, 6, 7, 8, 9, 10, 12, 13, 14, 15, 17, 18, 19};
    static final int[] NO_THREADS = {0, 1, 3, 4, 5, 6, 9, 10, 11, 12, 14, 15, 16, 17, 18, 19};
    static final int[] STOPPED_SPACES = {STOPPED, BARE};

    /** How many ways tell() knows to go on. */
    static final int WAYS = 4;

    private World() {
    }

    static PageMonitor make() {
        PageMonitor x = new PageMonitor();
        x.key(0, 11);
        x.key(7, -17);
        x.poke(2, 0, 70);
        x.poke(2, 15, 85);
        x.space(BUILT);
        x.table(BUILT_TABLE, BUILT, 0);
        x.thread(BUILT_THREAD, BUILT, 0);
        x.data(BUILT_DATA, BUILT, 0, 7, 2);
        x.share(BUILT, 1, 3, 0);
        x.spare(BUILT_SPARE, BUILT);
        finished(x);
        x.space(STOPPED);
        x.table(STOPPED_TABLE, STOPPED, 0);
        x.thread(STOPPED_THREAD, STOPPED, 0);
        x.data(STOPPED_DATA, STOPPED, 0, 5, 3);
        x.spare(STOPPED_SPARE, STOPPED);
        x.finish(STOPPED);
        x.enter(STOPPED_THREAD, 5, 5, 1);
        x.stop(STOPPED);
        x.space(BARE);
        x.stop(BARE);
        x.enter(ENTERED, 1000, 1, 1);
        x.enter(LEFT, 20, 2, 9);
        return x;
    }

    /** From 0 on it vouches, and leaves with what it has added; from 8 on it asks for a spare page. */
    private static void finished(PageMonitor x) {
        x.poke(3, 0, Bench.op(2, 0, 1, 0));
        x.poke(3, 1, Bench.op(1, 2, 0, 16));
        x.poke(3, 2, Bench.op(9, 2, 2, 0));
        x.poke(3, 3, Bench.op(11, 3, 0, 7));
        x.poke(3, 4, Bench.op(2, 0, 3, 0));
        x.poke(3, 8, Bench.op(12, 0, 1, 7));
        x.space(FINISHED);
        x.table(FINISHED_TABLE, FINISHED, 0);
        x.thread(ENTERED, FINISHED, 0);
        x.thread(LEFT, FINISHED, 8);
        x.data(FINISHED_DATA, FINISHED, 0, 5, 3);
        x.share(FINISHED, 1, 3, 1);
        x.spare(FINISHED_SPARE, FINISHED);
        x.finish(FINISHED);
    }

    /** Goes on in one of the WAYS and tells what every call of it answered. */
    static String tell(PageMonitor x, int way) {
        StringBuilder text = new StringBuilder();
        switch (way) {
            case 0:
                return Bench.seen(x);
            case 1:
                buildOn(x, text);
                break;
            case 2:
                runOn(x, text);
                break;
            default:
                takeApart(x, text);
        }
        return text.toString();
    }

    private static void add(StringBuilder text, int answer) {
        text.append(answer).append(' ');
    }

    private static void measures(PageMonitor x, StringBuilder text, int space) {
        for (int i = 0; i < 8; i++) {
            add(text, x.measure(space, i));
        }
    }

    private static void buildOn(PageMonitor x, StringBuilder text) {
        add(text, x.data(FREE, BUILT, 2, 7, 2));
        for (int place = 0; place < 4; place++) {
            add(text, x.table(FREE_TOO, BUILT, place));
        }
        for (int block = 0; block < 32; block++) {
            add(text, x.share(BUILT, block, 1, 7));
        }
        add(text, x.thread(LAST_FREE, BUILT, 0));
        add(text, x.finish(BUILT));
        for (int space : new int[] {BUILT, FINISHED, STOPPED}) {
            measures(x, text, space);
        }
        add(text, x.spare(BUILT_SPARE, BUILT));
        add(text, x.remove(BUILT_SPARE));
        add(text, x.spare(BUILT_SPARE, FINISHED));
        for (int page = 0; page < 20; page++) {
            add(text, x.told(page, 1));
        }
    }

    private static void runOn(PageMonitor x, StringBuilder text) {
        for (int page = 0; page < 20; page++) {
            add(text, x.resume(page, 1));
        }
        add(text, x.resume(ENTERED, 3));
        add(text, x.resume(ENTERED, 9));
        add(text, x.result());
        add(text, x.steps());
        for (int i = 0; i < 16; i++) {
            add(text, x.peek(1, i));
        }
        add(text, x.enter(LEFT, FINISHED_SPARE, 3, 9));
        add(text, x.result());
        add(text, x.enter(ENTERED, 3, 4, 9));
        add(text, x.result());
        add(text, x.finish(BUILT));
        add(text, x.enter(BUILT_THREAD, 3, 4, 9));
        add(text, x.result());
        text.append(Bench.seen(x));
    }

    private static void takeApart(PageMonitor x, StringBuilder text) {
        for (int page = 0; page < 20; page++) {
            add(text, x.remove(page));
            add(text, x.stop(page));
        }
        for (int page = 19; page >= 0; page--) {
            add(text, x.told(page, 3));
            add(text, x.remove(page));
            add(text, x.space(page));
        }
        text.append(Bench.seen(x));
    }
}
