/** Promise 18: told. */
public final class ToldTest {
    private static final Due DUE = new Due("ToldTest");

    public static void main(String[] args) {
        everyKind();
        counts();
        wrongPagesAndWhats();
        DUE.end();
    }

    private static void all(PageMonitor x, int page, int kind, int owner, int state, int count) {
        DUE.same("told(" + page + ", 0)", x.told(page, 0), kind);
        DUE.same("told(" + page + ", 1)", x.told(page, 1), owner);
        DUE.same("told(" + page + ", 2)", x.told(page, 2), state);
        DUE.same("told(" + page + ", 3)", x.told(page, 3), count);
    }

    private static void everyKind() {
        PageMonitor x = Bench.building(Bench.op(1, 0, 0, 1), Bench.op(0, 0, 0, 0));
        x.spare(19, 0);
        all(x, 0, 1, -1, 0, 4);
        x.finish(0);
        all(x, 0, 1, -1, 1, 4);
        x.enter(2, 0, 0, 1);
        all(x, 1, 3, 0, 0, 0);
        all(x, 2, 2, 0, 1, 0);
        all(x, 3, 4, 0, 0, 0);
        all(x, 4, 0, -1, 0, 0);
        all(x, 19, 5, 0, 0, 0);
        x.resume(2, 1);
        all(x, 2, 2, 0, 0, 0);
        x.enter(2, 0, 0, 1);
        x.stop(0);
        all(x, 0, 1, -1, 2, 4);
        all(x, 2, 2, 0, 0, 0);
    }

    private static void counts() {
        PageMonitor x = new PageMonitor();
        x.space(5);
        x.space(6);
        for (int page = 7; page < 20; page++) {
            x.spare(page, page % 3 == 0 ? 6 : 5);
        }
        all(x, 5, 1, -1, 0, 9);
        all(x, 6, 1, -1, 0, 4);
        all(x, 18, 5, 6, 0, 0);
        x.remove(18);
        all(x, 6, 1, -1, 0, 3);
        all(x, 18, 0, -1, 0, 0);
        x.spare(0, 6);
        all(x, 6, 1, -1, 0, 4);
        all(x, 0, 5, 6, 0, 0);
    }

    private static void wrongPagesAndWhats() {
        PageMonitor x = Bench.ready();
        for (int page : new int[] {-1, 20, Integer.MIN_VALUE, Integer.MAX_VALUE}) {
            for (int what : new int[] {0, 1, 2, 3, 4, -1}) {
                DUE.thrown("told(" + page + ", " + what + ")", IndexOutOfBoundsException.class,
                    () -> x.told(page, what));
            }
        }
        for (int what : new int[] {-1, 4, Integer.MIN_VALUE, Integer.MAX_VALUE}) {
            for (int page = 0; page < 20; page++) {
                int p = page;
                DUE.thrown("told(" + page + ", " + what + ")", IllegalArgumentException.class, () -> x.told(p, what));
            }
        }
    }
}
