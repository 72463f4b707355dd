import java.util.Arrays;

/**
 * A monitor that gives pages to closed spaces, measures how each is built, runs their threads
 * behind tables of its own, and vouches for what they say.
 */
public final class PageMonitor {
    public static final int NONE = -1;

    private static final int PAGES = 20;
    private static final int FRAMES = 8;
    private static final int WORDS = 16;
    private static final int ADDRESSES = 512;
    private static final int BLOCKS = 32;
    private static final int PLACES = 4;
    private static final int ENTRIES = 8;
    private static final int DIGEST = 8;
    private static final int REGISTERS = 4;
    private static final int MOST_STEPS = 2000;

    private static final int FREE = 0;
    private static final int SPACE = 1;
    private static final int THREAD = 2;
    private static final int TABLE = 3;
    private static final int DATA = 4;
    private static final int SPARE = 5;

    private static final int BUILT = 0;
    private static final int FINISHED = 1;
    private static final int STOPPED = 2;

    private static final int READ = 1;
    private static final int WRITE = 2;
    private static final int DO = 4;
    private static final int ALL_RIGHTS = 7;

    private static final int WELL = 0;
    private static final int OUT_OF_RANGE = 1;
    private static final int NOT_FREE = 2;
    private static final int NONE_SUCH = 3;
    private static final int WRONG_STATE = 4;
    private static final int NO_ROOM = 5;
    private static final int WRONGLY_ENTERED = 6;
    private static final int HAS_PAGES = 7;
    private static final int INTERRUPTED = 8;
    private static final int FAULTED = 9;

    private static final int TELLS_THREAD = 1;
    private static final int TELLS_DATA = 2;
    private static final int TELLS_FRAME = 3;

    private final Machine machine;
    private final Store store;
    private final Notary notary;

    public PageMonitor() {
        machine = new Machine();
        store = machine.store;
        notary = machine.notary;
    }

    public void key(int i, int v) throws IndexOutOfBoundsException {
        if (i < 0 || i >= DIGEST) {
            throw new IndexOutOfBoundsException();
        }
        notary.secret[i] = v;
        for (int page = 0; page < PAGES; page++) {
            store.claim(page, FREE, NONE);
        }
        machine.lastResult = 0;
    }

    public int poke(int frame, int i, int v) throws IndexOutOfBoundsException {
        if (!isFrame(frame) || !isWord(i)) {
            throw new IndexOutOfBoundsException();
        }
        int[] row = store.frameRow(frame);
        int old = row[i];
        row[i] = v;
        return old;
    }

    public int peek(int frame, int i) throws IndexOutOfBoundsException {
        if (!isFrame(frame) || !isWord(i)) {
            throw new IndexOutOfBoundsException();
        }
        return store.frameRow(frame)[i];
    }

    public int space(int page) {
        if (!isPage(page)) {
            return OUT_OF_RANGE;
        }
        if (store.pages[page].kind != FREE) {
            return NOT_FREE;
        }
        Page made = store.claim(page, SPACE, NONE);
        made.state = BUILT;
        Arrays.fill(made.tables, NONE);
        notary.open(made);
        return WELL;
    }

    public int thread(int page, int space, int entry) {
        if (!isPage(page) || !isPage(space) || entry < 0 || entry >= ADDRESSES) {
            return OUT_OF_RANGE;
        }
        int refusal = refusalOfNew(page, space, BUILT);
        if (refusal != WELL) {
            return refusal;
        }
        Page made = store.claim(page, THREAD, space);
        made.entry = entry;
        made.entered = false;
        notary.tell(store.pages[space], TELLS_THREAD, entry, 0);
        return WELL;
    }

    public int table(int page, int space, int place) {
        if (!isPage(page) || !isPage(space) || place < 0 || place >= PLACES) {
            return OUT_OF_RANGE;
        }
        int refusal = refusalOfNew(page, space, BUILT);
        if (refusal != WELL) {
            return refusal;
        }
        int[] tables = store.pages[space].tables;
        if (tables[place] != NONE) {
            return NO_ROOM;
        }
        tables[place] = page;
        Arrays.fill(store.claim(page, TABLE, space).entries, Store.EMPTY);
        return WELL;
    }

    public int data(int page, int space, int block, int rights, int frame) {
        if (!isPage(page) || !isPage(space) || !isBlock(block) || !isFrame(frame)
                || !areDataRights(rights)) {
            return OUT_OF_RANGE;
        }
        int refusal = refusalOfNew(page, space, BUILT);
        if (refusal != WELL) {
            return refusal;
        }
        Page home = store.pages[space];
        if (!store.hasRoom(home, block)) {
            return NO_ROOM;
        }
        store.claim(page, DATA, space);
        int[] words = store.rows[page];
        System.arraycopy(store.frameRow(frame), 0, words, 0, WORDS);
        store.map(home, block, page, rights);
        notary.tell(home, TELLS_DATA, block, rights);
        notary.tellWords(home, words);
        return WELL;
    }

    public int share(int space, int block, int rights, int frame) {
        if (!isPage(space) || !isBlock(block) || !isFrame(frame)
                || rights != READ && rights != READ + WRITE) {
            return OUT_OF_RANGE;
        }
        int refusal = refusalOfSpace(space, BUILT);
        if (refusal != WELL) {
            return refusal;
        }
        Page home = store.pages[space];
        if (!store.hasRoom(home, block)) {
            return NO_ROOM;
        }
        store.map(home, block, PAGES + frame, rights);
        notary.tell(home, TELLS_FRAME, block, rights);
        return WELL;
    }

    public int spare(int page, int space) {
        if (!isPage(page) || !isPage(space)) {
            return OUT_OF_RANGE;
        }
        int refusal = refusalOfNew(page, space, FINISHED);
        if (refusal != WELL) {
            return refusal;
        }
        store.claim(page, SPARE, space);
        return WELL;
    }

    public int finish(int space) {
        if (!isPage(space)) {
            return OUT_OF_RANGE;
        }
        int refusal = refusalOfSpace(space, BUILT);
        if (refusal != WELL) {
            return refusal;
        }
        store.pages[space].state = FINISHED;
        notary.seal(store.pages[space]);
        return WELL;
    }

    public int stop(int space) {
        if (!isPage(space)) {
            return OUT_OF_RANGE;
        }
        int refusal = refusalOfSpace(space, FINISHED);
        if (refusal != WELL) {
            return refusal;
        }
        store.pages[space].state = STOPPED;
        for (int page = 0; page < PAGES; page++) {
            if (store.pages[page].owner == space) {
                store.pages[page].entered = false;
            }
        }
        return WELL;
    }

    public int remove(int page) {
        if (!isPage(page)) {
            return OUT_OF_RANGE;
        }
        Page gone = store.pages[page];
        if (gone.kind == FREE) {
            return NONE_SUCH;
        }
        if (gone.kind != SPARE && homeOf(gone).state != STOPPED) {
            return WRONG_STATE;
        }
        if (gone.kind == SPACE && store.countOwnedBy(page) > 0) {
            return HAS_PAGES;
        }
        store.claim(page, FREE, NONE);
        return WELL;
    }

    public int enter(int thread, int a, int b, int steps) {
        int refusal = refusalOfRun(thread, steps, false);
        if (refusal != WELL) {
            return refusal;
        }
        Page runner = store.pages[thread];
        Arrays.fill(runner.registers, 0);
        runner.registers[0] = a;
        runner.registers[1] = b;
        runner.place = runner.entry;
        return machine.run(runner, steps);
    }

    public int resume(int thread, int steps) {
        int refusal = refusalOfRun(thread, steps, true);
        if (refusal != WELL) {
            return refusal;
        }
        return machine.run(store.pages[thread], steps);
    }

    public int result() {
        return machine.lastResult;
    }

    public int steps() {
        return machine.lastSteps;
    }

    public int told(int page, int what) throws IndexOutOfBoundsException, IllegalArgumentException {
        if (!isPage(page)) {
            throw new IndexOutOfBoundsException();
        }
        Page asked = store.pages[page];
        switch (what) {
            case 0:
                return asked.kind;
            case 1:
                return asked.owner;
            case 2:
                return stateOf(asked);
            case 3:
                return asked.kind == SPACE ? store.countOwnedBy(page) : 0;
            default:
                throw new IllegalArgumentException();
        }
    }

    public int measure(int page, int i) throws IndexOutOfBoundsException, IllegalStateException {
        if (!isPage(page) || i < 0 || i >= DIGEST) {
            throw new IndexOutOfBoundsException();
        }
        Page asked = store.pages[page];
        if (asked.kind != SPACE || !asked.sealed) {
            throw new IllegalStateException();
        }
        return asked.digest[i];
    }

    private static boolean isPage(int page) {
        return page >= 0 && page < PAGES;
    }

    private static boolean isFrame(int frame) {
        return frame >= 0 && frame < FRAMES;
    }

    private static boolean isWord(int i) {
        return i >= 0 && i < WORDS;
    }

    private static boolean isBlock(int block) {
        return block >= 0 && block < BLOCKS;
    }

    private static boolean areDataRights(int rights) {
        return rights >= 1 && rights <= ALL_RIGHTS;
    }

    private static int stateOf(Page page) {
        if (page.kind == SPACE) {
            return page.state;
        }
        return page.kind == THREAD && page.entered ? 1 : 0;
    }

    /** The space whose state counts for a page: a space is its own. */
    private Page homeOf(Page page) {
        return page.kind == SPACE ? page : store.pages[page.owner];
    }

    /** States only go up, so the latest one that is allowed tells all that are. */
    private int refusalOfSpace(int space, int latest) {
        Page home = store.pages[space];
        if (home.kind != SPACE) {
            return NONE_SUCH;
        }
        return home.state <= latest ? WELL : WRONG_STATE;
    }

    private int refusalOfNew(int page, int space, int latest) {
        return store.pages[page].kind != FREE ? NOT_FREE : refusalOfSpace(space, latest);
    }

    private int refusalOfRun(int thread, int most, boolean entered) {
        if (!isPage(thread) || most < 1 || most > MOST_STEPS) {
            return OUT_OF_RANGE;
        }
        Page runner = store.pages[thread];
        if (runner.kind != THREAD) {
            return NONE_SUCH;
        }
        if (homeOf(runner).state != FINISHED) {
            return WRONG_STATE;
        }
        return runner.entered == entered ? WELL : WRONGLY_ENTERED;
    }

    /** What is known of a page, with room for whatever it may become, so that no call makes rows. */
    private static final class Page {
        int kind = FREE;
        int owner = NONE;

        // of a space; the digest is a chain in the making until the space is sealed
        int state = BUILT;
        boolean sealed = false;
        int blocksTold = 0;
        final int[] tables = new int[PLACES];
        final int[] digest = new int[DIGEST];

        // of a thread; what it has kept counts only while it is entered
        int entry = 0;
        boolean entered = false;
        int place = 0;
        final int[] registers = new int[REGISTERS];

        // of a table
        final int[] entries = new int[ENTRIES];
    }

    /** The pages and frames, and the way from a space's addresses to their words. */
    private static final class Store {
        // rights are never 0, so neither is an entry that holds something: row * 8 + rights
        static final int EMPTY = 0;
        private static final int ROW_SHIFT = 3;

        final Page[] pages = new Page[PAGES];
        // frames stand behind the pages, so that one number names either
        final int[][] rows = new int[PAGES + FRAMES][WORDS];

        Store() {
            for (int page = 0; page < PAGES; page++) {
                pages[page] = new Page();
            }
        }

        int[] frameRow(int frame) {
            return rows[PAGES + frame];
        }

        Page claim(int page, int kind, int owner) {
            Page claimed = pages[page];
            claimed.kind = kind;
            claimed.owner = owner;
            return claimed;
        }

        int countOwnedBy(int space) {
            int count = 0;
            for (int page = 0; page < PAGES; page++) {
                if (pages[page].owner == space) {
                    count++;
                }
            }
            return count;
        }

        /** The entries of the table for a block, or null if there is no such block or table. */
        private int[] entriesFor(Page space, int block) {
            if (!isBlock(block)) {
                return null;
            }
            int table = space.tables[block / ENTRIES];
            return table == NONE ? null : pages[table].entries;
        }

        boolean hasRoom(Page space, int block) {
            int[] entries = entriesFor(space, block);
            return entries != null && entries[block % ENTRIES] == EMPTY;
        }

        void map(Page space, int block, int row, int rights) {
            int[] entries = entriesFor(space, block);
            if (entries != null) {
                entries[block % ENTRIES] = row << ROW_SHIFT | rights;
            }
        }

        /** The sixteen words among which an address is, or null if it is not there with the right. */
        int[] rowAt(Page space, int address, int right) {
            if (address < 0 || address >= ADDRESSES) {
                return null;
            }
            int block = address / WORDS;
            int[] entries = entriesFor(space, block);
            if (entries == null) {
                return null;
            }
            int entry = entries[block % ENTRIES];
            return (entry & right) == 0 ? null : rows[entry >> ROW_SHIFT];
        }

        /** Makes data of a space's spare page; false, and nothing done, if that can't be. */
        boolean useSpare(int space, int page, int block, int rights) {
            if (!isPage(page) || pages[page].kind != SPARE || pages[page].owner != space) {
                return false;
            }
            if (!areDataRights(rights) || !hasRoom(pages[space], block)) {
                return false;
            }
            pages[page].kind = DATA;
            Arrays.fill(rows[page], 0);
            map(pages[space], block, page, rights);
            return true;
        }

        /** Makes the data page at a block spare again; its number, or NONE if there is none. */
        int giveBack(int space, int block) {
            int[] entries = entriesFor(pages[space], block);
            if (entries == null || entries[block % ENTRIES] == EMPTY) {
                return NONE;
            }
            int row = entries[block % ENTRIES] >> ROW_SHIFT;
            if (row >= PAGES) {
                return NONE;
            }
            pages[row].kind = SPARE;
            entries[block % ENTRIES] = EMPTY;
            return row;
        }
    }

    /** Runs a thread's instructions, with the registers in the thread's own page. */
    private static final class Machine {
        private static final int GOES_ON = 0;
        private static final int LEFT = -1;
        private static final int NOTHING_TO_DO = 1;
        private static final int NOT_READ = 2;
        private static final int NOT_WRITTEN = 3;
        private static final int NO_INSTRUCTION = 4;

        final Store store = new Store();
        final Notary notary = new Notary();
        int lastResult = 0;
        int lastSteps = 0;

        private final int[] said = new int[DIGEST];
        private final int[] claimedMeasure = new int[DIGEST];
        private final int[] claimedVoucher = new int[DIGEST];
        private final int[] voucher = new int[DIGEST];

        int run(Page thread, int most) {
            Page space = store.pages[thread.owner];
            int outcome = GOES_ON;
            int done = 0;
            while (done < most && outcome == GOES_ON) {
                int[] row = store.rowAt(space, thread.place, DO);
                outcome = row == null ? NOTHING_TO_DO : obey(thread, space, row[thread.place % WORDS]);
                done++;
            }
            lastSteps = done;
            thread.entered = outcome == GOES_ON;
            if (outcome == LEFT) {
                return WELL;
            }
            lastResult = outcome == GOES_ON ? 0 : outcome;
            return outcome == GOES_ON ? INTERRUPTED : FAULTED;
        }

        /** Does one instruction: GOES_ON, LEFT, or the number of its fault. */
        private int obey(Page thread, Page space, int word) {
            thread.place++;
            int[] registers = thread.registers;
            int a = word >> 4 & 3;
            int i = word >> 8;
            int ra = registers[a];
            int rb = registers[word >> 6 & 3];
            switch (word & 15) {
                case 0:
                    lastResult = ra;
                    return LEFT;
                case 1:
                    registers[a] = i;
                    return GOES_ON;
                case 2:
                    registers[a] = ra + rb;
                    return GOES_ON;
                case 3:
                    registers[a] = ra - rb;
                    return GOES_ON;
                case 4:
                    registers[a] = ra * rb;
                    return GOES_ON;
                case 5:
                    registers[a] = ra & rb;
                    return GOES_ON;
                case 6:
                    return load(space, rb + i, registers, a);
                case 7:
                    return save(space, rb + i, ra);
                case 8:
                    thread.place += ra != 0 ? i : 0;
                    return GOES_ON;
                case 9:
                    return vouch(space, ra, rb);
                case 10:
                    return compare(space, rb, registers, a);
                case 11:
                    registers[a] = space.digest[i & 7];
                    return GOES_ON;
                case 12:
                    registers[a] = store.useSpare(thread.owner, ra, rb, i & ALL_RIGHTS) ? 0 : 1;
                    return GOES_ON;
                case 13:
                    registers[a] = store.giveBack(thread.owner, rb);
                    return GOES_ON;
                default:
                    return NO_INSTRUCTION;
            }
        }

        private int load(Page space, int address, int[] registers, int a) {
            int[] row = store.rowAt(space, address, READ);
            if (row == null) {
                return NOT_READ;
            }
            registers[a] = row[address % WORDS];
            return GOES_ON;
        }

        private int save(Page space, int address, int value) {
            int[] row = store.rowAt(space, address, WRITE);
            if (row == null) {
                return NOT_WRITTEN;
            }
            row[address % WORDS] = value;
            return GOES_ON;
        }

        private int vouch(Page space, int from, int to) {
            if (!readEight(space, from, said)) {
                return NOT_READ;
            }
            if (!mayWriteEight(space, to)) {
                return NOT_WRITTEN;
            }
            notary.writeVoucher(space.digest, said, voucher);
            for (int k = 0; k < DIGEST; k++) {
                save(space, to + k, voucher[k]);
            }
            return GOES_ON;
        }

        private int compare(Page space, int from, int[] registers, int a) {
            if (!readEight(space, from, claimedMeasure)
                    || !readEight(space, from + DIGEST, said)
                    || !readEight(space, from + 2 * DIGEST, claimedVoucher)) {
                return NOT_READ;
            }
            notary.writeVoucher(claimedMeasure, said, voucher);
            registers[a] = 1;
            for (int k = 0; k < DIGEST; k++) {
                if (voucher[k] != claimedVoucher[k]) {
                    registers[a] = 0;
                }
            }
            return GOES_ON;
        }

        private boolean readEight(Page space, int from, int[] into) {
            for (int k = 0; k < DIGEST; k++) {
                int[] row = store.rowAt(space, from + k, READ);
                if (row == null) {
                    return false;
                }
                into[k] = row[(from + k) % WORDS];
            }
            return true;
        }

        private boolean mayWriteEight(Page space, int from) {
            for (int k = 0; k < DIGEST; k++) {
                if (store.rowAt(space, from + k, WRITE) == null) {
                    return false;
                }
            }
            return true;
        }
    }

    /** Keeps the key, measures the building of spaces and writes vouchers. */
    private static final class Notary {
        private static final int TELLS_END = 4;

        final int[] secret = new int[DIGEST];
        private final Hasher hasher = new Hasher();
        private final int[] block = new int[WORDS];

        void open(Page space) {
            space.sealed = false;
            space.blocksTold = 0;
            hasher.begin(space.digest);
        }

        void tell(Page space, int what, int first, int second) {
            Arrays.fill(block, 0);
            block[0] = what;
            block[1] = first;
            block[2] = second;
            tellWords(space, block);
        }

        void tellWords(Page space, int[] words) {
            hasher.take(space.digest, words);
            space.blocksTold++;
        }

        void seal(Page space) {
            tell(space, TELLS_END, 0, 0);
            hasher.take(space.digest, hasher.endAfter(space.blocksTold));
            space.sealed = true;
        }

        void writeVoucher(int[] measure, int[] said, int[] voucher) {
            hasher.begin(voucher);
            System.arraycopy(secret, 0, block, 0, DIGEST);
            System.arraycopy(measure, 0, block, DIGEST, DIGEST);
            hasher.take(voucher, block);
            Arrays.fill(block, 0);
            System.arraycopy(said, 0, block, 0, DIGEST);
            hasher.take(voucher, block);
            hasher.take(voucher, hasher.endAfter(2));
        }
    }

    /** SHA-256 in blocks of sixteen words; a digest is the chain of its blocks until the end. */
    private static final class Hasher {
        private static final int ROUNDS = 64;
        private static final int BITS_OF_BLOCK = 512;

        private static final int[] START = {
            0x6a09e667, 0xbb67ae85, 0x3c6ef372, 0xa54ff53a,
            0x510e527f, 0x9b05688c, 0x1f83d9ab, 0x5be0cd19,
        };

        private static final int[] ADDED = {
            0x428a2f98, 0x71374491, 0xb5c0fbcf, 0xe9b5dba5, 0x3956c25b, 0x59f111f1, 0x923f82a4, 0xab1c5ed5,
            0xd807aa98, 0x12835b01, 0x243185be, 0x550c7dc3, 0x72be5d74, 0x80deb1fe, 0x9bdc06a7, 0xc19bf174,
            0xe49b69c1, 0xefbe4786, 0x0fc19dc6, 0x240ca1cc, 0x2de92c6f, 0x4a7484aa, 0x5cb0a9dc, 0x76f988da,
            0x983e5152, 0xa831c66d, 0xb00327c8, 0xbf597fc7, 0xc6e00bf3, 0xd5a79147, 0x06ca6351, 0x14292967,
            0x27b70a85, 0x2e1b2138, 0x4d2c6dfc, 0x53380d13, 0x650a7354, 0x766a0abb, 0x81c2c92e, 0x92722c85,
            0xa2bfe8a1, 0xa81a664b, 0xc24b8b70, 0xc76c51a3, 0xd192e819, 0xd6990624, 0xf40e3585, 0x106aa070,
            0x19a4c116, 0x1e376c08, 0x2748774c, 0x34b0bcb5, 0x391c0cb3, 0x4ed8aa4a, 0x5b9cca4f, 0x682e6ff3,
            0x748f82ee, 0x78a5636f, 0x84c87814, 0x8cc70208, 0x90befffa, 0xa4506ceb, 0xbef9a3f7, 0xc67178f2,
        };

        private final int[] schedule = new int[ROUNDS];
        private final int[] padding = new int[WORDS];

        void begin(int[] digest) {
            System.arraycopy(START, 0, digest, 0, DIGEST);
        }

        void take(int[] digest, int[] words) {
            spread(words);
            int a = digest[0];
            int b = digest[1];
            int c = digest[2];
            int d = digest[3];
            int e = digest[4];
            int f = digest[5];
            int g = digest[6];
            int h = digest[7];
            for (int t = 0; t < ROUNDS; t++) {
                int turnedE = (e >>> 6 | e << 26) ^ (e >>> 11 | e << 21) ^ (e >>> 25 | e << 7);
                int turnedA = (a >>> 2 | a << 30) ^ (a >>> 13 | a << 19) ^ (a >>> 22 | a << 10);
                int first = h + turnedE + (e & f ^ ~e & g) + ADDED[t] + schedule[t];
                int second = turnedA + (a & b ^ a & c ^ b & c);
                h = g;
                g = f;
                f = e;
                e = d + first;
                d = c;
                c = b;
                b = a;
                a = first + second;
            }
            digest[0] += a;
            digest[1] += b;
            digest[2] += c;
            digest[3] += d;
            digest[4] += e;
            digest[5] += f;
            digest[6] += g;
            digest[7] += h;
        }

        /** The last block to take: what is hashed here is whole blocks, so all of it is padding. */
        int[] endAfter(int blocks) {
            padding[0] = 1 << 31;
            padding[WORDS - 1] = blocks * BITS_OF_BLOCK;
            return padding;
        }

        private void spread(int[] words) {
            System.arraycopy(words, 0, schedule, 0, WORDS);
            for (int t = WORDS; t < ROUNDS; t++) {
                int x = schedule[t - 15];
                int y = schedule[t - 2];
                int turnedX = (x >>> 7 | x << 25) ^ (x >>> 18 | x << 14) ^ x >>> 3;
                int turnedY = (y >>> 17 | y << 15) ^ (y >>> 19 | y << 13) ^ y >>> 10;
                schedule[t] = schedule[t - 16] + turnedX + schedule[t - 7] + turnedY;
            }
        }
    }
}
