/** A small file system on a chip whose pages are programmed once and erased by whole blocks. */
public final class SpareTagFlash {
    /** There is no such object. */
    public static final int NO_OBJECT = -1;
    /** The object is a file. */
    public static final int NOT_DIRECTORY = -2;
    /** The object is a directory. */
    public static final int IS_DIRECTORY = -3;
    /** The name is taken. */
    public static final int EXISTS = -4;
    /** All objects are there. */
    public static final int FULL = -5;
    /** There is no room. */
    public static final int NO_SPACE = -6;
    /** A chunk or a size out of its bounds. */
    public static final int RANGE = -7;
    /** The directory has objects in it. */
    public static final int NOT_EMPTY = -8;
    /** The system is off. */
    public static final int OFF = -9;
    /** A directory would come to lie in itself. */
    public static final int LOOP = -10;
    /** What read() and nameOf() answer for an unreadable page. */
    public static final long UNREADABLE = 4294967296L;
    /** What read() and nameOf() add to the code of a refusal. */
    public static final long REFUSED = 8589934592L;

    private static final int DONE = 0;
    private static final int NONE = -1;

    private static final int ROOT = 0;
    private static final int LAST_OBJECT = 7;
    private static final int HEADER = 0;
    private static final int LAST_CHUNK = 6;

    private static final int BLOCKS = 6;
    private static final int PAGES_IN_BLOCK = 8;
    private static final int PAGES = BLOCKS * PAGES_IN_BLOCK;
    private static final int BITS_IN_WORD = 39;
    private static final long NO_BITS = 0L;

    /** Pages that stay free beside those a call asks for, so that collecting can always go on. */
    private static final int RESERVE = 8;
    /** A round of collecting wins a page or loses a block for ever: no run comes near this. */
    private static final int MOST_ROUNDS = 1000;
    private static final int MOST_STEPS_BEFORE_CUT = 1000;

    private final Chip chip;
    private final boolean[] stale;
    private boolean on;

    public SpareTagFlash() {
        chip = new Chip();
        stale = new boolean[PAGES];
        on = true;
    }

    public int create(int parent, int name, boolean directory) {
        int refusal = refusalOfDirectory(parent);
        if (refusal != DONE) {
            return refusal;
        }
        if (objectNamed(parent, name) != ROOT) {
            return EXISTS;
        }
        int object = lowestAbsentObject();
        if (object == NONE) {
            return FULL;
        }
        refusal = makeRoom(1);
        if (refusal != DONE) {
            return refusal;
        }
        boolean done = put(NONE, Tags.ofHeader(object, parent, directory), name, NO_BITS);
        return done ? object : switchOff();
    }

    public int write(int object, int chunk, int value) {
        int refusal = refusalOfFile(object);
        if (refusal != DONE) {
            return refusal;
        }
        if (chunk < 1 || chunk > LAST_CHUNK) {
            return RANGE;
        }
        boolean grows = chunk > Tags.length(headerTags(object));
        refusal = makeRoom(grows ? 2 : 1);
        if (refusal != DONE) {
            return refusal;
        }
        int before = chip.livePage(object, chunk);
        boolean done = put(before, Tags.ofChunk(object, chunk), value, NO_BITS)
                && (!grows || putLength(object, chunk));
        return done ? DONE : switchOff();
    }

    public long read(int object, int chunk) {
        int refusal = refusalOfFile(object);
        if (refusal != DONE) {
            return REFUSED + refusal;
        }
        if (chunk < 1 || chunk > Tags.length(headerTags(object))) {
            return REFUSED + RANGE;
        }
        int page = chip.livePage(object, chunk);
        return page == NONE ? 0L : chip.wordRead(page);
    }

    public int truncate(int object, int size) {
        int refusal = refusalOfFile(object);
        if (refusal != DONE) {
            return refusal;
        }
        int length = Tags.length(headerTags(object));
        if (size < 0 || size > length) {
            return RANGE;
        }
        if (size == length) {
            return DONE;
        }
        refusal = makeRoom(1);
        if (refusal != DONE) {
            return refusal;
        }
        boolean done = putLength(object, size) && markChunks(object, size + 1);
        return done ? DONE : switchOff();
    }

    public int move(int object, int parent, int name) {
        int refusal = refusalOfObject(object);
        if (refusal == DONE) {
            refusal = refusalOfDirectory(parent);
        }
        if (refusal != DONE) {
            return refusal;
        }
        if (liesIn(parent, object)) {
            return LOOP;
        }
        int namesake = objectNamed(parent, name);
        if (namesake != ROOT && namesake != object) {
            return EXISTS;
        }
        refusal = makeRoom(1);
        if (refusal != DONE) {
            return refusal;
        }
        int before = chip.livePage(object, HEADER);
        boolean done = put(before, Tags.withParent(headerTags(object), parent), name, NO_BITS);
        return done ? DONE : switchOff();
    }

    public int remove(int object) {
        int refusal = refusalOfObject(object);
        if (refusal != DONE) {
            return refusal;
        }
        if (objectsIn(object) > 0) {
            return NOT_EMPTY;
        }
        return markChunks(object, HEADER) ? DONE : switchOff();
    }

    public int find(int parent, int name) {
        int refusal = refusalOfDirectory(parent);
        return refusal != DONE ? refusal : objectNamed(parent, name);
    }

    public int size(int object) {
        if (!on) {
            return OFF;
        }
        if (object != ROOT && !isThere(object)) {
            return NO_OBJECT;
        }
        return isDirectory(object) ? objectsIn(object) : Tags.length(headerTags(object));
    }

    public int parentOf(int object) {
        int refusal = refusalOfObject(object);
        return refusal != DONE ? refusal : Tags.parent(headerTags(object));
    }

    public long nameOf(int object) {
        int refusal = refusalOfObject(object);
        return refusal != DONE ? REFUSED + refusal : nameRead(object);
    }

    public int checkpoint() {
        if (!on) {
            return OFF;
        }
        return chip.dropRegion() && chip.fillRegion() ? chip.countLive() : switchOff();
    }

    public int mount(boolean scan) {
        int pagesRead = scan || !chip.regionValid
                ? PAGES_IN_BLOCK * chip.countGood()
                : PAGES_IN_BLOCK * chip.countGoodTouched() + 1;
        // The region and the touched blocks together show every live page, as a scan does:
        // what is stale is the same either way.
        settleStale();
        on = markStale();
        return on ? pagesRead : OFF;
    }

    public void cut(int n) {
        chip.stepsLeft = n >= 0 && n <= MOST_STEPS_BEFORE_CUT ? n : NONE;
    }

    public boolean flip(int block, int page, int bit) {
        if (!isPage(block, page) || bit < 0 || bit >= BITS_IN_WORD) {
            return false;
        }
        return chip.turnBit(block * PAGES_IN_BLOCK + page, bit);
    }

    public boolean wear(int block) {
        if (!isBlock(block) || chip.bad[block] || chip.worn[block]) {
            return false;
        }
        chip.worn[block] = true;
        return true;
    }

    public int tags(int block, int page) {
        if (!isPage(block, page)) {
            return -1;
        }
        int place = block * PAGES_IN_BLOCK + page;
        return chip.isProgrammed(place) ? chip.tagsOf[place] : -2;
    }

    public int free() {
        return chip.countFree();
    }

    public int erases(int block) {
        if (!isBlock(block)) {
            return -1;
        }
        return 2 * chip.timesErased[block] + (chip.bad[block] ? 1 : 0);
    }

    public int steps() {
        return chip.stepsDone;
    }

    private static boolean isBlock(int block) {
        return block >= 0 && block < BLOCKS;
    }

    private static boolean isPage(int block, int page) {
        return isBlock(block) && page >= 0 && page < PAGES_IN_BLOCK;
    }

    private int switchOff() {
        on = false;
        return OFF;
    }

    private int refusalOfObject(int object) {
        if (!on) {
            return OFF;
        }
        return isThere(object) ? DONE : NO_OBJECT;
    }

    private int refusalOfFile(int object) {
        int refusal = refusalOfObject(object);
        if (refusal != DONE) {
            return refusal;
        }
        return isDirectory(object) ? IS_DIRECTORY : DONE;
    }

    private int refusalOfDirectory(int object) {
        if (!on) {
            return OFF;
        }
        if (object != ROOT && !isThere(object)) {
            return NO_OBJECT;
        }
        return isDirectory(object) ? DONE : NOT_DIRECTORY;
    }

    private boolean isThere(int object) {
        return object > ROOT && object <= LAST_OBJECT && chip.livePage(object, HEADER) != NONE;
    }

    private boolean isDirectory(int object) {
        return object == ROOT || Tags.isOfDirectory(headerTags(object));
    }

    /** The tags of the object's header; those of nothing when it is not there. */
    private int headerTags(int object) {
        int page = chip.livePage(object, HEADER);
        return page == NONE ? 0 : chip.tagsOf[page];
    }

    private long nameRead(int object) {
        int page = chip.livePage(object, HEADER);
        return page == NONE ? UNREADABLE : chip.wordRead(page);
    }

    private boolean isIn(int object, int parent) {
        return isThere(object) && Tags.parent(headerTags(object)) == parent;
    }

    /** The object with that parent and name, or ROOT, which is nobody's child, for none. */
    private int objectNamed(int parent, int name) {
        for (int object = 1; object <= LAST_OBJECT; object++) {
            if (isIn(object, parent) && nameRead(object) == name) {
                return object;
            }
        }
        return ROOT;
    }

    private int objectsIn(int parent) {
        int count = 0;
        for (int object = 1; object <= LAST_OBJECT; object++) {
            if (isIn(object, parent)) {
                count++;
            }
        }
        return count;
    }

    private int lowestAbsentObject() {
        for (int object = 1; object <= LAST_OBJECT; object++) {
            if (!isThere(object)) {
                return object;
            }
        }
        return NONE;
    }

    private boolean liesIn(int inner, int outer) {
        int place = inner;
        for (int depth = 0; depth <= LAST_OBJECT && place != ROOT; depth++) {
            if (place == outer) {
                return true;
            }
            place = Tags.parent(headerTags(place));
        }
        return false;
    }

    /** Puts a page in the stead of the one before it, if any; false when the power failed. */
    private boolean put(int before, int tags, int word, long turned) {
        if (before == NONE) {
            return chip.program(Tags.withSerial(tags, 0), word, turned);
        }
        int serial = Tags.serialAfter(chip.tagsOf[before]);
        return chip.program(Tags.withSerial(tags, serial), word, turned) && chip.mark(before);
    }

    /** Puts a page that takes over the word of the page before it. */
    private boolean putWordOf(int before, int tags) {
        long turned = chip.isUnreadable(before) ? chip.turnedBits[before] : NO_BITS;
        return put(before, tags, chip.words[before], turned);
    }

    private boolean putLength(int object, int length) {
        int page = chip.livePage(object, HEADER);
        return page == NONE || putWordOf(page, Tags.withLength(chip.tagsOf[page], length));
    }

    private boolean markChunks(int object, int first) {
        for (int chunk = first; chunk <= LAST_CHUNK; chunk++) {
            int page = chip.livePage(object, chunk);
            if (page != NONE && !chip.mark(page)) {
                return false;
            }
        }
        return true;
    }

    /** Collects until there is room: DONE, NO_SPACE, or OFF when the power failed. */
    private int makeRoom(int pages) {
        int wanted = RESERVE + pages;
        for (int round = 0; round < MOST_ROUNDS && chip.countFree() < wanted; round++) {
            int block = blockToCollect();
            if (block == NONE) {
                return NO_SPACE;
            }
            if (!collect(block)) {
                return switchOff();
            }
        }
        return chip.countFree() < wanted ? NO_SPACE : DONE;
    }

    private int blockToCollect() {
        int best = NONE;
        // A block whose pages are all live wins nothing, so it is no candidate.
        int fewest = PAGES_IN_BLOCK;
        int free = chip.countFree();
        for (int block = 0; block < BLOCKS; block++) {
            if (chip.bad[block] || chip.programmed[block] < PAGES_IN_BLOCK) {
                continue;
            }
            int live = chip.countLiveIn(block);
            if (live < fewest && live <= free) {
                best = block;
                fewest = live;
            }
        }
        return best;
    }

    private boolean collect(int block) {
        int first = block * PAGES_IN_BLOCK;
        for (int page = first; page < first + PAGES_IN_BLOCK; page++) {
            if (chip.isLive(page) && !putWordOf(page, chip.tagsOf[page])) {
                return false;
            }
        }
        return chip.erase(block);
    }

    private void settleStale() {
        for (int page = 0; page < PAGES; page++) {
            stale[page] = chip.isLive(page) && (chip.hasSuccessor(page) || isBeyondFile(page));
        }
    }

    /** Whether a live page is a chunk without a header, or lies behind the end of its file. */
    private boolean isBeyondFile(int page) {
        int chunk = Tags.chunk(chip.tagsOf[page]);
        if (chunk == HEADER) {
            return false;
        }
        int header = chip.latestHeader(Tags.object(chip.tagsOf[page]));
        return header == NONE || chunk > Tags.length(chip.tagsOf[header]);
    }

    private boolean markStale() {
        for (int page = 0; page < PAGES; page++) {
            if (stale[page] && !chip.mark(page)) {
                return false;
            }
        }
        return true;
    }

    /** The tags of a page, packed in one int just as the method tags() answers them. */
    private static final class Tags {
        private static final int OBJECT_AND_CHUNK = 63;
        private static final int SERIALS = 3 << 6;
        private static final int MARKED = 256;
        private static final int PARENTS = 7 << 9;
        private static final int LENGTHS = 7 << 12;
        private static final int DIRECTORY = 32768;

        static int ofChunk(int object, int chunk) {
            return object + 8 * chunk;
        }

        static int ofHeader(int object, int parent, boolean directory) {
            return object + (parent << 9) + (directory ? DIRECTORY : 0);
        }

        static int object(int tags) {
            return tags & 7;
        }

        static int chunk(int tags) {
            return (tags >> 3) & 7;
        }

        static int serialAfter(int tags) {
            return ((tags >> 6) + 1) & 3;
        }

        static boolean isMarked(int tags) {
            return (tags & MARKED) != 0;
        }

        static int parent(int tags) {
            return (tags & PARENTS) >> 9;
        }

        static int length(int tags) {
            return (tags & LENGTHS) >> 12;
        }

        static boolean isOfDirectory(int tags) {
            return (tags & DIRECTORY) != 0;
        }

        static int withSerial(int tags, int serial) {
            return (tags & ~SERIALS) | (serial << 6);
        }

        static int withParent(int tags, int parent) {
            return (tags & ~PARENTS) | (parent << 9);
        }

        static int withLength(int tags, int length) {
            return (tags & ~LENGTHS) | (length << 12);
        }

        static boolean areOf(int tags, int object, int chunk) {
            return (tags & OBJECT_AND_CHUNK) == ofChunk(object, chunk);
        }

        /** Whether the second tags are of the same object and chunk and next in serial. */
        static boolean follow(int before, int after) {
            return (before & OBJECT_AND_CHUNK) == (after & OBJECT_AND_CHUNK)
                    && serialAfter(before) == (after & SERIALS) >> 6;
        }
    }

    /**
     * The pages, blocks and region, and the steps that alone change them. A page's place is
     * 8 * block + page. A step answers false when the power failed at it.
     */
    private static final class Chip {
        final int[] tagsOf = new int[PAGES];
        final int[] words = new int[PAGES];
        final long[] turnedBits = new long[PAGES];
        /** How many pages of a block are programmed: always its first ones. */
        final int[] programmed = new int[BLOCKS];
        final int[] timesErased = new int[BLOCKS];
        final boolean[] worn = new boolean[BLOCKS];
        final boolean[] bad = new boolean[BLOCKS];
        final boolean[] touched = new boolean[BLOCKS];
        // What the region bears is not kept: it is where the live pages of the blocks lie
        // that were not touched since, and these can be seen in the blocks themselves.
        boolean regionValid = false;
        int stepsDone = 0;
        /** The steps that will still be done before the power fails, or NONE. */
        int stepsLeft = NONE;

        boolean isProgrammed(int page) {
            return page % PAGES_IN_BLOCK < programmed[page / PAGES_IN_BLOCK];
        }

        boolean isLive(int page) {
            return isProgrammed(page) && !Tags.isMarked(tagsOf[page]);
        }

        boolean isUnreadable(int page) {
            return Long.bitCount(turnedBits[page]) >= 2;
        }

        long wordRead(int page) {
            return isUnreadable(page) ? UNREADABLE : words[page];
        }

        int livePage(int object, int chunk) {
            for (int page = 0; page < PAGES; page++) {
                if (isLive(page) && Tags.areOf(tagsOf[page], object, chunk)) {
                    return page;
                }
            }
            return NONE;
        }

        int latestHeader(int object) {
            for (int page = 0; page < PAGES; page++) {
                if (isLive(page) && Tags.areOf(tagsOf[page], object, HEADER)
                        && !hasSuccessor(page)) {
                    return page;
                }
            }
            return NONE;
        }

        boolean hasSuccessor(int page) {
            for (int other = 0; other < PAGES; other++) {
                if (isLive(other) && Tags.follow(tagsOf[page], tagsOf[other])) {
                    return true;
                }
            }
            return false;
        }

        int countLiveIn(int block) {
            int count = 0;
            int first = block * PAGES_IN_BLOCK;
            for (int page = first; page < first + PAGES_IN_BLOCK; page++) {
                if (isLive(page)) {
                    count++;
                }
            }
            return count;
        }

        int countLive() {
            int count = 0;
            for (int block = 0; block < BLOCKS; block++) {
                count += countLiveIn(block);
            }
            return count;
        }

        int countFree() {
            int count = 0;
            for (int block = 0; block < BLOCKS; block++) {
                if (!bad[block]) {
                    count += PAGES_IN_BLOCK - programmed[block];
                }
            }
            return count;
        }

        int countGood() {
            int count = 0;
            for (int block = 0; block < BLOCKS; block++) {
                if (!bad[block]) {
                    count++;
                }
            }
            return count;
        }

        int countGoodTouched() {
            int count = 0;
            for (int block = 0; block < BLOCKS; block++) {
                if (!bad[block] && touched[block]) {
                    count++;
                }
            }
            return count;
        }

        boolean turnBit(int page, int bit) {
            if (bad[page / PAGES_IN_BLOCK] || !isProgrammed(page) || isUnreadable(page)) {
                return false;
            }
            turnedBits[page] ^= 1L << bit;
            return true;
        }

        /** Programs the next page; room was made before, so there always is one. */
        boolean program(int tags, int word, long turned) {
            int block = blockOfNextPage();
            if (block == NONE || !takeStep()) {
                return false;
            }
            int page = block * PAGES_IN_BLOCK + programmed[block];
            tagsOf[page] = tags;
            words[page] = word;
            turnedBits[page] = turned;
            programmed[block]++;
            touched[block] = true;
            return true;
        }

        boolean mark(int page) {
            if (!takeStep()) {
                return false;
            }
            tagsOf[page] |= Tags.MARKED;
            touched[page / PAGES_IN_BLOCK] = true;
            return true;
        }

        boolean erase(int block) {
            if (!takeStep()) {
                return false;
            }
            if (worn[block]) {
                bad[block] = true;
            } else {
                programmed[block] = 0;
                timesErased[block]++;
            }
            touched[block] = true;
            return true;
        }

        boolean dropRegion() {
            if (!takeStep()) {
                return false;
            }
            regionValid = false;
            return true;
        }

        boolean fillRegion() {
            if (!takeStep()) {
                return false;
            }
            regionValid = true;
            for (int block = 0; block < BLOCKS; block++) {
                touched[block] = false;
            }
            return true;
        }

        private int blockOfNextPage() {
            int empty = NONE;
            for (int block = 0; block < BLOCKS; block++) {
                if (bad[block] || programmed[block] == PAGES_IN_BLOCK) {
                    continue;
                }
                if (programmed[block] > 0) {
                    return block;
                }
                if (empty == NONE) {
                    empty = block;
                }
            }
            return empty;
        }

        private boolean takeStep() {
            if (stepsLeft == 0) {
                stepsLeft = NONE;
                return false;
            }
            if (stepsLeft > 0) {
                stepsLeft--;
            }
            stepsDone++;
            return true;
        }
    }
}
