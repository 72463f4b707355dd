import java.nio.ByteBuffer;
import java.security.MessageDigest;
import java.security.NoSuchAlgorithmException;

/** What several tests need: instructions as words, spaces ready to run, and the Java library's hash. */
final class Bench {
    /** Where ready() puts things. */
    static final int SPACE = 0;
    static final int TABLE = 1;
    static final int THREAD = 2;
    static final int CODE = 3;
    /** The frame that the code is told in, and 0 again afterwards. */
    static final int CODE_FRAME = 7;

    static final int LOWEST = Integer.MIN_VALUE;
    static final int HIGHEST = Integer.MAX_VALUE;
    static final int LEAVE = op(0, 0, 0, 0);

    private Bench() {
    }

    /** What lies outside 0 to most: the two next to the range, and the two furthest from it. */
    static int[] outside(int most) {
        return new int[] {-1, most + 1, LOWEST, HIGHEST};
    }

    static int op(int op, int a, int b, int i) {
        return op | a << 4 | b << 6 | i << 8;
    }

    static void fill(PageMonitor x, int frame, int... words) {
        for (int i = 0; i < 16; i++) {
            x.poke(frame, i, i < words.length ? words[i] : 0);
        }
    }

    /** A built space 0 with a table at place 0, a thread at entry 0 and code at block 0, rights 4. */
    static PageMonitor building(int... code) {
        PageMonitor x = new PageMonitor();
        fill(x, CODE_FRAME, code);
        x.space(SPACE);
        x.table(TABLE, SPACE, 0);
        x.thread(THREAD, SPACE, 0);
        x.data(CODE, SPACE, 0, 4, CODE_FRAME);
        fill(x, CODE_FRAME);
        return x;
    }

    static PageMonitor ready(int... code) {
        PageMonitor x = building(code);
        x.finish(SPACE);
        return x;
    }

    /** A page of data with these words; frame 7 is 0 again afterwards. */
    static int data(PageMonitor x, int page, int space, int block, int rights, int... words) {
        fill(x, CODE_FRAME, words);
        int answer = x.data(page, space, block, rights, CODE_FRAME);
        fill(x, CODE_FRAME);
        return answer;
    }

    static int[] frame(PageMonitor x, int frame) {
        int[] words = new int[16];
        for (int i = 0; i < 16; i++) {
            words[i] = x.peek(frame, i);
        }
        return words;
    }

    /** Eight words of a frame from one on. */
    static int[] eight(PageMonitor x, int frame, int from) {
        int[] words = new int[8];
        for (int i = 0; i < 8; i++) {
            words[i] = x.peek(frame, from + i);
        }
        return words;
    }

    /** Rows of up to sixteen words, filled up with 0, as one text of words. */
    static int[] rows(int[]... rows) {
        int[] words = new int[rows.length * 16];
        for (int r = 0; r < rows.length; r++) {
            System.arraycopy(rows[r], 0, words, r * 16, rows[r].length);
        }
        return words;
    }

    static int[] row(int... words) {
        return words;
    }

    static int[] hash(int... words) {
        ByteBuffer bytes = ByteBuffer.allocate(words.length * 4);
        for (int word : words) {
            bytes.putInt(word);
        }
        try {
            ByteBuffer digest = ByteBuffer.wrap(MessageDigest.getInstance("SHA-256").digest(bytes.array()));
            int[] answer = new int[8];
            for (int i = 0; i < 8; i++) {
                answer[i] = digest.getInt();
            }
            return answer;
        } catch (NoSuchAlgorithmException e) {
            throw new IllegalStateException(e);
        }
    }

    static int[] voucher(int[] key, int[] measure, int[] said) {
        int[] words = new int[32];
        System.arraycopy(key, 0, words, 0, 8);
        System.arraycopy(measure, 0, words, 8, 8);
        System.arraycopy(said, 0, words, 16, 8);
        return hash(words);
    }

    static int[] measureOf(PageMonitor x, int space) {
        int[] words = new int[8];
        for (int i = 0; i < 8; i++) {
            words[i] = x.measure(space, i);
        }
        return words;
    }

    /** All that the system can see of the object, for calls that must change nothing. */
    static String seen(PageMonitor x) {
        StringBuilder text = new StringBuilder();
        for (int page = 0; page < 20; page++) {
            for (int what = 0; what < 4; what++) {
                text.append(x.told(page, what)).append(' ');
            }
        }
        for (int frame = 0; frame < 8; frame++) {
            for (int i = 0; i < 16; i++) {
                text.append(x.peek(frame, i)).append(' ');
            }
        }
        return text.append(x.result()).append(' ').append(x.steps()).toString();
    }
}
