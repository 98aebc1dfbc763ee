/** The boundary cases of promises 3 to 5, and of what 'Terms' says of files. */
public final class FileBoundaryTest extends Boundaries {
    private static final int[] ABSENT = {0, 5, 6, 7};
    /** Some of these are chunks 1 .. 6 when they are cut down to three bits. */
    private static final int[] NO_CHUNKS = {MIN, MIN + 1, -8, -7, -2, -1, 0, 7, 8, 9, 14, 65, MAX};

    public static void main(String[] args) {
        termsSizeIsTheLastChunk();
        termsAHoleIsNought();
        promise3ObjectNotThere();
        promise3OfADirectory();
        promise3ChunkOutOfBounds();
        promise3ChunkAtTheBounds();
        promise3ChunkAtTheSize();
        promise3TheOrderOfItsSteps();
        promise4ObjectNotThere();
        promise4OfADirectory();
        promise4ChunkOutOfBounds();
        promise4ChunkAtTheBounds();
        promise4NoneOneAndTwoBits();
        promise5ObjectNotThere();
        promise5OfADirectory();
        promise5SizeOutOfBounds();
        promise5SizeAtTheBounds();
        promise5SizeIsTheFilesSize();
        promise5MarksWhatIsLive();
        promise5InTheOrderOfChunks();
        Check.end();
    }

    private static void termsSizeIsTheLastChunk() {
        for (int last = 1; last <= 6; last++) {
            Run x = oneFile("the size is the number of the last chunk, " + last);
            x.due(0, size(1));
            x.due(0, write(1, last, 7));
            x.due(last, size(1));
            x.due(7, read(1, last));
            x.idle(REFUSED + RANGE, read(1, last + 1));
            for (int chunk = 1; chunk < last; chunk++) {
                x.idle(0, read(1, chunk));
            }
        }
    }

    private static void termsAHoleIsNought() {
        Run x = oneFile("a chunk without a live page is a hole and is 0");
        x.due(0, write(1, 1, 11));
        x.due(0, write(1, 2, 22));
        x.due(0, truncate(1, 0));
        x.due(0, write(1, 3, 33));
        x.idle(0, read(1, 1));
        x.idle(0, read(1, 2));
        x.idle(33, read(1, 3));
        x.due(0, write(1, 2, 0));
        x.idle(0, read(1, 2));
        x.due(0, write(1, 2, 222));
        x.idle(222, read(1, 2));
        x.idle(0, read(1, 1));
        x.due(0, truncate(1, 1));
        x.due(1, size(1));
        x.idle(0, read(1, 1));
    }

    private static void promise3ObjectNotThere() {
        Run x = smallTree("3: NO_OBJECT when object is not one of 1 .. 7 that is there");
        for (int object : ABSENT) {
            x.idle(NO_OBJECT, write(object, 1, 1));
        }
        for (int object : NEVER_OBJECTS) {
            x.idle(NO_OBJECT, write(object, 1, 1));
        }
        x.due(0, remove(4));
        x.idle(NO_OBJECT, write(4, 1, 1));
        Run y = begin("3: the bounds 1 and 7");
        for (int object = 1; object <= 7; object++) {
            y.due(object, create(0, object, false));
        }
        y.due(0, write(1, 1, 1));
        y.due(0, write(7, 1, 7));
        y.due(1, read(1, 1));
        y.due(7, read(7, 1));
    }

    private static void promise3OfADirectory() {
        Run x = smallTree("3: IS_DIRECTORY");
        x.idle(IS_DIRECTORY, write(1, 1, 1));
        x.idle(IS_DIRECTORY, write(2, 6, 1));
        x.idle(IS_DIRECTORY, write(2, 0, 1));
        x.idle(IS_DIRECTORY, write(2, 7, 1));
    }

    private static void promise3ChunkOutOfBounds() {
        Run x = smallTree("3: RANGE when chunk is not 1 .. 6");
        for (int chunk : NO_CHUNKS) {
            x.idle(RANGE, write(3, chunk, 1));
            x.idle(RANGE, write(4, chunk, 1));
        }
    }

    private static void promise3ChunkAtTheBounds() {
        for (int chunk = 1; chunk <= 6; chunk++) {
            Run x = smallTree("3: a chunk 1 .. 6, " + chunk);
            x.due(0, write(4, chunk, 44));
            x.due(chunk, size(4));
            x.due(44, read(4, chunk));
            x.due(0, write(3, chunk, 33));
            x.due(Math.max(chunk, 3), size(3));
            x.due(33, read(3, chunk));
        }
    }

    /** Below the size and at it only the chunk is put; above it the header is put too. */
    private static void promise3ChunkAtTheSize() {
        for (int chunk = 1; chunk <= 6; chunk++) {
            Run x = oneFile("3: when chunk is greater than the size 3 the header is put, " + chunk);
            x.due(0, write(1, 1, 1));
            x.due(0, write(1, 3, 3));
            int steps = (int) x.make(steps());
            int free = (int) x.make(free());
            x.due(headerTags(1, 2, 0, 3), tags(0, 4));
            x.due(0, write(1, chunk, 99));
            boolean grows = chunk > 3;
            boolean hole = chunk == 2;
            x.due(free - (grows ? 2 : 1), free());
            x.due(steps + (grows ? 3 : hole ? 1 : 2), steps());
            x.due(chunkTags(1, chunk, grows || hole ? 0 : 1), tags(0, 5));
            x.due(grows ? headerTags(1, 3, 0, chunk) : UNPROGRAMMED, tags(0, 6));
            x.due(headerTags(1, 2, 0, 3) + (grows ? MARKED : 0), tags(0, 4));
            x.due(grows ? chunk : 3, size(1));
            x.due(10, nameOf(1));
        }
    }

    private static void promise3TheOrderOfItsSteps() {
        for (int n = 0; n <= 3; n++) {
            Run x = oneFile("3: the page of the chunk, then the header, cut after " + n);
            x.make(cut(n));
            x.due(n < 3 ? OFF : 0, write(1, 2, 22));
            x.due(n < 1 ? UNPROGRAMMED : chunkTags(1, 2, 0), tags(0, 1));
            x.due(n < 2 ? UNPROGRAMMED : headerTags(1, 1, 0, 2), tags(0, 2));
            x.due(headerTags(1, 0, 0, 0) + (n < 3 ? 0 : MARKED), tags(0, 0));
            x.due(1 + n, steps());
        }
    }

    private static void promise4ObjectNotThere() {
        Run x = smallTree("4: REFUSED + NO_OBJECT when object is not one of 1 .. 7 that is there");
        for (int object : ABSENT) {
            x.idle(REFUSED + NO_OBJECT, read(object, 1));
        }
        for (int object : NEVER_OBJECTS) {
            x.idle(REFUSED + NO_OBJECT, read(object, 1));
        }
        x.due(0, remove(3));
        x.idle(REFUSED + NO_OBJECT, read(3, 1));
    }

    private static void promise4OfADirectory() {
        Run x = smallTree("4: REFUSED + IS_DIRECTORY");
        x.idle(REFUSED + IS_DIRECTORY, read(1, 1));
        x.idle(REFUSED + IS_DIRECTORY, read(2, 1));
        x.idle(REFUSED + IS_DIRECTORY, read(2, 0));
        x.idle(REFUSED + IS_DIRECTORY, read(2, 7));
    }

    private static void promise4ChunkOutOfBounds() {
        Run x = smallTree("4: REFUSED + RANGE when chunk is not 1 .. size");
        for (int chunk : NO_CHUNKS) {
            x.idle(REFUSED + RANGE, read(3, chunk));
            x.idle(REFUSED + RANGE, read(4, chunk));
        }
        x.idle(REFUSED + RANGE, read(3, 4));
        x.idle(REFUSED + RANGE, read(3, 6));
        x.idle(REFUSED + RANGE, read(4, 1));
    }

    private static void promise4ChunkAtTheBounds() {
        for (int size = 0; size <= 6; size++) {
            Run x = oneFile("4: a chunk 1 .. size, " + size);
            for (int chunk = 1; chunk <= size; chunk++) {
                x.due(0, write(1, chunk, -chunk));
            }
            for (int chunk = 1; chunk <= size; chunk++) {
                x.idle(-chunk, read(1, chunk));
            }
            x.idle(REFUSED + RANGE, read(1, 0));
            x.idle(REFUSED + RANGE, read(1, size + 1));
        }
    }

    private static void promise4NoneOneAndTwoBits() {
        Run x = smallTree("4: UNREADABLE when its page is");
        // Pages of block 0: 4 is chunk 1 of file 3, 6 chunk 3 of it, 7 its header.
        x.idle(31, read(3, 1));
        x.due(YES, flip(0, 4, 0));
        x.idle(31, read(3, 1));
        x.due(YES, flip(0, 4, 38));
        x.idle(UNREADABLE, read(3, 1));
        x.idle(33, read(3, 3));
        x.idle(0, read(3, 2));
        x.due(YES, flip(0, 7, 0));
        x.due(YES, flip(0, 7, 38));
        x.idle(33, read(3, 3));
        x.idle(REFUSED + RANGE, read(3, 4));
        x.due(0, write(3, 1, 310));
        x.idle(310, read(3, 1));
    }

    private static void promise5ObjectNotThere() {
        Run x = smallTree("5: NO_OBJECT when object is not one of 1 .. 7 that is there");
        for (int object : ABSENT) {
            x.idle(NO_OBJECT, truncate(object, 0));
        }
        for (int object : NEVER_OBJECTS) {
            x.idle(NO_OBJECT, truncate(object, 0));
        }
        x.due(0, remove(3));
        x.idle(NO_OBJECT, truncate(3, 0));
        Run y = begin("5: the bounds 1 and 7");
        for (int object = 1; object <= 7; object++) {
            y.due(object, create(0, object, false));
        }
        y.due(0, write(7, 1, 7));
        y.due(0, truncate(1, 0));
        y.due(0, truncate(7, 0));
        y.due(0, size(7));
    }

    private static void promise5OfADirectory() {
        Run x = smallTree("5: IS_DIRECTORY");
        x.idle(IS_DIRECTORY, truncate(1, 0));
        x.idle(IS_DIRECTORY, truncate(1, 2));
        x.idle(IS_DIRECTORY, truncate(2, 0));
        x.idle(IS_DIRECTORY, truncate(2, -1));
        x.idle(IS_DIRECTORY, truncate(2, 7));
    }

    private static void promise5SizeOutOfBounds() {
        Run x = smallTree("5: RANGE when size is not from 0 to the file's size");
        for (int size : new int[] {MIN, MIN + 1, -8, -5, -1, 4, 5, 6, 7, 8, 9, 16, MAX}) {
            x.idle(RANGE, truncate(3, size));
        }
        for (int size : new int[] {MIN, -8, -1, 1, 2, 6, 7, 8, MAX}) {
            x.idle(RANGE, truncate(4, size));
        }
        Run y = smallTree("5: RANGE beside the size 6");
        y.due(0, write(4, 6, 6));
        y.idle(RANGE, truncate(4, 7));
        y.idle(0, truncate(4, 6));
        y.idle(RANGE, truncate(4, -1));
    }

    private static void promise5SizeAtTheBounds() {
        for (int size = 0; size <= 5; size++) {
            Run x = oneFile("5: from 0 to the file's size, " + size);
            for (int chunk = 1; chunk <= 6; chunk++) {
                x.due(0, write(1, chunk, 10 * chunk));
            }
            int steps = (int) x.make(steps());
            x.due(0, truncate(1, size));
            x.due(size, size(1));
            x.due(headerTags(1, 3, 0, size), tags(1, 5));
            x.due(UNPROGRAMMED, tags(1, 6));
            x.due(steps + 2 + 6 - size, steps());
            for (int chunk = 1; chunk <= size; chunk++) {
                x.due(10 * chunk, read(1, chunk));
            }
            x.idle(REFUSED + RANGE, read(1, size + 1));
            x.due(10, nameOf(1));
            x.due(1 + size, checkpoint());
        }
    }

    private static void promise5SizeIsTheFilesSize() {
        Run x = smallTree("5: 0, with nothing done, when size is the file's size");
        x.idle(0, truncate(3, 3));
        x.idle(0, truncate(4, 0));
        x.make(cut(0));
        x.idle(0, truncate(3, 3));
        x.due(0, truncate(3, 3));
        x.due(OFF, truncate(3, 2));
    }

    private static void promise5MarksWhatIsLive() {
        Run x = oneFile("5: a hole has no page to mark");
        x.due(0, write(1, 6, 6));
        x.due(0, write(1, 2, 2));
        int steps = (int) x.make(steps());
        x.due(0, truncate(1, 3));
        x.due(steps + 3, steps());
        x.due(0, truncate(1, 2));
        x.due(steps + 5, steps());
        x.due(2, read(1, 2));
        x.due(0, truncate(1, 1));
        x.due(steps + 8, steps());
        x.due(0, read(1, 1));
    }

    private static void promise5InTheOrderOfChunks() {
        // Pages of block 0: 1 is chunk 4, 2 the header, 3 chunk 2, 4 chunk 3, 5 chunk 1.
        int[] order = {2, 3, 4, 1};
        for (int n = 0; n <= 5; n++) {
            Run x = oneFile("5: the header, then the chunks in their order, cut after " + n);
            x.due(0, write(1, 4, 4));
            x.due(0, write(1, 2, 2));
            x.due(0, write(1, 3, 3));
            x.due(0, write(1, 1, 1));
            x.make(cut(n));
            x.due(n < 5 ? OFF : 0, truncate(1, 1));
            x.due(n < 1 ? UNPROGRAMMED : headerTags(1, 2, 0, 1), tags(0, 6));
            for (int i = 0; i < 4; i++) {
                int marked = (int) x.make(tags(0, order[i])) & MARKED;
                Check.due("the mark of page " + order[i], marked, i + 1 < n ? MARKED : 0);
            }
            x.due(chunkTags(1, 1, 0), tags(0, 5));
        }
    }
}
