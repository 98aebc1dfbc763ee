/** The boundary cases of 'Terms' from putting a page to the room for k pages. */
public final class CollectBoundaryTest extends Boundaries {
    public static void main(String[] args) {
        putBeginsWithSerialNought();
        putProgramsThenMarks();
        takingOverByWrite();
        takingOverByTruncate();
        takingOverByCollectingAHeader();
        takingOverByCollectingAChunk();
        notTakingOverByMove();
        notTakingOverByWritingTheChunk();
        collectingKeepsOrderAndTags();
        collectingErasesInTheEnd();
        collectingSerialsAfterThree();
        canBeCollectedWhenGood();
        canBeCollectedWhenAllIsProgrammed();
        canBeCollectedWhenNotAllAreLive();
        canBeCollectedWhenAsManyAreFree();
        canNotBeCollectedWhenOneLessIsFree();
        canBeCollectedWithNothingLiveAndNothingFree();
        erasingAWornBlock();
        roomForOneAtTheBoundary();
        roomForTwoAtTheBoundary();
        roomForTwoWhenChunkIsTheSize();
        roomStopsAsSoonAsThereIsEnough();
        roomTakesTheFewestLivePages();
        roomTakesTheLowestOfSeveral();
        noRoomForOne();
        noRoomForTwo();
        whatWasCollectedStays();
        whatWasCollectedStaysWithWornBlocks();
        noRoomIsNeeded();
        powerFailsWhileCollecting();
        Check.end();
    }

    private static void putBeginsWithSerialNought() {
        Run x = oneFile("serial 0 if there was no live page before");
        x.due(0, move(1, 0, 11));
        x.due(headerTags(1, 1, 0, 0), tags(0, 1));
        x.due(0, remove(1));
        x.due(1, create(0, 10, false));
        x.due(headerTags(1, 0, 0, 0), tags(0, 2));
        x.due(0, write(1, 1, 1));
        x.due(0, write(1, 1, 2));
        x.due(chunkTags(1, 1, 1), tags(0, 5));
        x.due(0, truncate(1, 0));
        x.due(0, write(1, 1, 3));
        x.due(chunkTags(1, 1, 0), tags(0, 7));
    }

    private static void putProgramsThenMarks() {
        for (int n = 0; n <= 2; n++) {
            Run x = oneFile("the new page is programmed, then the old one marked, cut " + n);
            x.make(cut(n));
            x.due(n < 2 ? OFF : 0, move(1, 0, 11));
            x.due(n < 1 ? UNPROGRAMMED : headerTags(1, 1, 0, 0), tags(0, 1));
            x.due(headerTags(1, 0, 0, 0) + (n < 2 ? 0 : MARKED), tags(0, 0));
            x.due(1 + n, steps());
        }
        Run y = begin("nothing is marked if there was no page before");
        y.make(cut(1));
        y.due(1, create(0, 10, false));
        y.due(1, steps());
    }

    /** Turns so many bits of a page round: 5 and 6, or 5, or none. */
    private static void turn(Run x, int block, int page, int bits) {
        for (int bit = 5; bit < 5 + bits; bit++) {
            x.due(YES, flip(block, page, bit));
        }
    }

    /** None or two bits of the page are turned round; the word is what the call answers. */
    private static void expectTurned(Run x, int block, int page, int bits, Call ask, long word) {
        if (bits == 2) {
            x.due(UNREADABLE, ask);
            x.idle(NO, flip(block, page, 5));
            x.idle(NO, flip(block, page, 6));
            x.idle(NO, flip(block, page, 7));
            return;
        }
        x.due(word, ask);
        x.due(YES, flip(block, page, 5));
        x.due(word, ask);
        x.due(YES, flip(block, page, 6));
        x.due(UNREADABLE, ask);
    }

    private static void takingOverByWrite() {
        for (int bits = 0; bits <= 2; bits++) {
            Run x = oneFile("write takes over the header's word, bits turned: " + bits);
            turn(x, 0, 0, bits);
            x.due(0, write(1, 1, 1));
            expectTurned(x, 0, 2, bits, nameOf(1), 10);
        }
    }

    private static void takingOverByTruncate() {
        for (int bits = 0; bits <= 2; bits++) {
            Run x = oneFile("truncate takes over the header's word, bits turned: " + bits);
            x.due(0, write(1, 1, 1));
            turn(x, 0, 2, bits);
            x.due(0, truncate(1, 0));
            expectTurned(x, 0, 3, bits, nameOf(1), 10);
        }
    }

    private static void takingOverByCollectingAHeader() {
        for (int bits = 0; bits <= 2; bits++) {
            Run x = oneHeaderInEachBlock("collecting takes over a name, bits turned: " + bits);
            turn(x, 0, 7, bits);
            x.due(0, move(5, 0, 1));
            x.due(headerTags(1, 0, 0, 0), tags(5, 0));
            expectTurned(x, 5, 0, bits, nameOf(1), 107);
        }
    }

    private static void takingOverByCollectingAChunk() {
        for (int bits = 0; bits <= 2; bits++) {
            Run x = fiveLivePagesInBlockNought("collecting takes over a word, bits turned: " + bits);
            turn(x, 0, 2, bits);
            x.due(0, write(4, 1, 1));
            x.due(chunkTags(2, 3, 1), tags(5, 1));
            expectTurned(x, 5, 1, bits, read(2, 3), 23);
        }
    }

    private static void notTakingOverByMove() {
        for (int bits = 0; bits <= 2; bits++) {
            Run x = oneFile("move takes over no bit, bits turned: " + bits);
            turn(x, 0, 0, bits);
            x.due(0, move(1, 0, 10));
            expectTurned(x, 0, 1, 0, nameOf(1), 10);
        }
    }

    private static void notTakingOverByWritingTheChunk() {
        for (int bits = 0; bits <= 2; bits++) {
            Run x = oneFile("a written chunk takes over no bit, bits turned: " + bits);
            x.due(0, write(1, 1, 7));
            turn(x, 0, 1, bits);
            x.due(0, write(1, 1, 7));
            expectTurned(x, 0, 3, 0, read(1, 1), 7);
        }
    }

    /**
     * Block 0 has the live pages 0 (directory 1), 2 (chunk 3 of file 2), 3 (file 2 in 1), 4
     * (directory 3 in 1) and 7 (chunk 1 of 2); blocks 1 .. 4 have the files 4 .. 7 and one
     * marked page each.
     */
    private static Run fiveLivePagesInBlockNought(String name) {
        Run x = begin(name);
        x.due(1, create(0, 10, true));
        x.due(2, create(1, 20, false));
        x.due(0, write(2, 3, 23));
        x.due(3, create(1, 30, true));
        x.due(0, write(2, 1, 21), 3);
        fillWithFiles(x, 4, 28);
        x.due(8, free());
        return x;
    }

    private static void collectingKeepsOrderAndTags() {
        Run x = fiveLivePagesInBlockNought("live pages are put in their order with the same tags");
        int steps = (int) x.make(steps());
        x.due(0, write(4, 1, 1));
        x.due(1 + 64 + DIRECTORY, tags(5, 0));
        x.due(chunkTags(2, 3, 1), tags(5, 1));
        x.due(headerTags(2, 2, 1, 3), tags(5, 2));
        x.due(3 + 64 + 512 + DIRECTORY, tags(5, 3));
        x.due(chunkTags(2, 1, 3), tags(5, 4));
        x.due(chunkTags(4, 1, 1), tags(5, 5));
        x.due(UNPROGRAMMED, tags(5, 6));
        x.due(2, erases(0));
        // Five pages are put, the block is erased, and the chunk is put.
        x.due(steps + 2 * 5 + 1 + 2, steps());
        x.due(10, nameOf(1));
        x.due(20, nameOf(2));
        x.due(30, nameOf(3));
        x.due(23, read(2, 3));
        x.due(0, read(2, 2));
        x.due(21, read(2, 1));
    }

    private static void collectingErasesInTheEnd() {
        int[] live = {0, 2, 3, 4, 7};
        for (int n = 0; n <= 11; n++) {
            Run x = fiveLivePagesInBlockNought("then the block is erased, cut after " + n);
            Run before = x.again();
            x.make(cut(n));
            x.due(OFF, write(4, 1, 1));
            x.due(n < 11 ? 0 : 2, erases(0));
            for (int i = 0; i < live.length; i++) {
                long old = before.make(tags(0, live[i]));
                long marked = n >= 2 * i + 2 ? MARKED : 0;
                x.due(n < 11 ? old + marked : UNPROGRAMMED, tags(0, live[i]));
                long serial = before.make(tags(0, live[i])) & 192;
                long put = old - serial + (serial + 64) % 256;
                x.due(n >= 2 * i + 1 ? put : UNPROGRAMMED, tags(5, i));
            }
            x.due(n < 11 ? 8 - (n + 1) / 2 : 11, free());
        }
    }

    private static void collectingSerialsAfterThree() {
        Run x = oneHeaderInEachBlock("a serial 3 becomes 0 when its page is collected");
        x.due(headerTags(1, 3, 0, 0), tags(0, 7));
        x.due(0, move(5, 0, 1));
        x.due(headerTags(1, 0, 0, 0), tags(5, 0));
    }

    private static void canBeCollectedWhenGood() {
        Run x = oneHeaderInEachBlock("a BAD block can't be collected");
        x.due(YES, wear(0));
        x.due(0, move(5, 0, 1));
        // Block 0 had one live page as all others; it became BAD, and block 1 was taken next.
        x.due(1, erases(0));
        x.due(2, erases(1));
        // (5,0) and (5,1) are headers of 1 and 2; the moves go to (5,2) .. (5,7).
        x.due(13, free());
        x.due(0, move(5, 0, 1), 5);
        x.due(8, free());
        // Block 4 has no live page any more. Block 0 has none either, and is lower.
        x.due(0, move(5, 0, 1));
        x.due(1, erases(0));
        x.due(2, erases(4));
        x.due(headerTags(1, 3, 0, 0) + MARKED, tags(0, 7));
    }

    /** Block 4, the last one begun, has no live page; each block before it has one. */
    private static Run nothingLiveInBlockFour(String name, int programmed) {
        Run x = begin(name);
        for (int file = 1; file <= 4; file++) {
            putHeader(x, file, 8);
        }
        putHeader(x, 5, programmed);
        x.due(0, remove(5));
        x.due(16 - programmed, free());
        return x;
    }

    private static void canBeCollectedWhenAllIsProgrammed() {
        Run x = nothingLiveInBlockFour("a block with 7 programmed pages can't be collected", 7);
        x.due(0, write(1, 1, 1));
        x.due(0, erases(4));
        x.due(2, erases(0));
        x.due(headerTags(1, 0, 0, 0) + MARKED, tags(4, 7));
        x.due(chunkTags(1, 1, 0), tags(0, 0));
        x.due(headerTags(1, 1, 0, 1), tags(0, 1));
        Run y = nothingLiveInBlockFour("a block with 8 programmed pages can be collected", 8);
        y.due(0, write(1, 1, 1));
        y.due(2, erases(4));
        y.due(0, erases(0));
        y.due(chunkTags(1, 1, 0), tags(4, 0));
    }

    private static void canBeCollectedWhenNotAllAreLive() {
        Run x = sixFilesWithoutRoom("blocks with 8 live pages can't be collected");
        x.idle(NO_SPACE, write(1, 1, 1));
        x.idle(NO_SPACE, create(0, 7, false));
        Run y = begin("a block with 7 live pages can be collected");
        fillWithFiles(y, 1, 39);
        y.due(8, free());
        y.due(0, erases(5));
        y.due(headerTags(6, 0, 0, 0) + MARKED, tags(5, 7));
        int steps = (int) y.make(steps());
        y.due(7, create(0, 7, false));
        y.due(steps + 2 * 7 + 1 + 1, steps());
        y.due(2, erases(5));
        y.due(8, free());
        y.idle(NO_SPACE, move(7, 0, 8));
    }

    private static void canBeCollectedWhenAsManyAreFree() {
        Run x = sevenLivePagesInBlockNought("7 live pages, and 7 free ones");
        for (int block = 0; block <= 4; block++) {
            x.due(YES, wear(block));
        }
        x.due(NO_SPACE, move(2, 0, 999));
        for (int block = 0; block <= 4; block++) {
            x.due(1, erases(block));
        }
        x.due(0, free());
        x.due(headerTags(2, 0, 0, 0), tags(5, 0));
        x.due(chunkTags(1, 6, 1), tags(5, 1));
        x.due(chunkTags(1, 5, 1), tags(5, 7));
        x.due(231, nameOf(2));
        x.idle(NO_SPACE, move(2, 0, 999));
    }

    private static void canNotBeCollectedWhenOneLessIsFree() {
        Run x = begin("7 live pages, and 6 free ones");
        fillWithFiles(x, 1, 7);
        putHeader(x, 2, 31);
        putHeader(x, 3, 1);
        for (int block = 0; block <= 4; block++) {
            x.due(YES, wear(block));
        }
        x.due(8, free());
        x.due(NO_SPACE, move(2, 0, 999));
        x.due(0, erases(0));
        for (int block = 1; block <= 4; block++) {
            x.due(1, erases(block));
        }
        x.due(6, free());
        x.due(chunkTags(1, 6, 0), tags(0, 1));
        x.idle(NO_SPACE, move(2, 0, 999));
        x.due(16, mount(true));
    }

    private static void canBeCollectedWithNothingLiveAndNothingFree() {
        for (int live = 0; live <= 1; live++) {
            Run x = sevenLivePagesInBlockNought("nothing is free, live pages: " + live);
            for (int block = 0; block <= 4; block++) {
                x.due(YES, wear(block));
            }
            x.due(NO_SPACE, move(2, 0, 999));
            x.due(0, free());
            x.due(0, remove(1));
            if (live == 0) {
                x.due(0, remove(2));
                x.due(NO_SPACE, create(0, 1, false));
                x.due(2, erases(5));
                x.due(8, free());
                x.idle(NO_SPACE, create(0, 1, false));
            } else {
                x.idle(NO_SPACE, create(0, 1, false));
                x.due(0, erases(5));
            }
        }
    }

    private static void erasingAWornBlock() {
        for (int n = 0; n <= 1; n++) {
            Run x = oneLivePageInBlockFour("a worn block becomes BAD, and its pages stay, cut " + n);
            x.due(YES, wear(0));
            x.make(cut(n));
            x.due(OFF, move(1, 0, 100));
            x.due(n, erases(0));
            x.due(0, erases(1));
            x.due(8, free());
            x.due(79 + n, steps());
            for (int page = 0; page <= 7; page++) {
                x.due(headerTags(1, page % 4, 0, 0) + MARKED, tags(0, page));
            }
            x.due(48 - 8 * n, mount(true));
        }
        Run y = oneLivePageInBlockFour("a block that is not worn has no programmed page then");
        y.make(cut(1));
        y.due(OFF, move(1, 0, 100));
        y.due(2, erases(0));
        for (int page = 0; page <= 7; page++) {
            y.due(UNPROGRAMMED, tags(0, page));
        }
        y.due(16, free());
    }

    private static void roomForOneAtTheBoundary() {
        Call[] calls = {create(0, 20, true), write(1, 1, 99), truncate(1, 0), move(1, 0, 20)};
        for (Call call : calls) {
            Run x = writtenUntilFree("9 pages are free: room for 1 page", 9);
            long answer = x.make(call);
            Check.due(call.text() + " is done", answer >= 0, true);
            x.due(8, free());
            for (int block = 0; block <= 5; block++) {
                x.due(0, erases(block));
            }
            Run y = writtenUntilFree("8 pages are free: a block is collected", 8);
            Check.due(call.text() + " is done", y.make(call), answer);
            for (int block = 0; block <= 5; block++) {
                y.due(block == 1 ? 2 : 0, erases(block));
            }
            y.due(15, free());
        }
    }

    private static void roomForTwoAtTheBoundary() {
        for (int chunk = 2; chunk <= 6; chunk += 4) {
            Run x = writtenUntilFree("10 pages are free: room for 2 pages", 10);
            x.due(0, write(1, chunk, 99));
            x.due(8, free());
            for (int block = 0; block <= 5; block++) {
                x.due(0, erases(block));
            }
            Run y = writtenUntilFree("9 pages are free: a block is collected for 2 pages", 9);
            y.due(0, write(1, chunk, 99));
            for (int block = 0; block <= 5; block++) {
                y.due(block == 1 ? 2 : 0, erases(block));
            }
            y.due(15, free());
        }
    }

    private static void roomForTwoWhenChunkIsTheSize() {
        Run x = writtenUntilFree("9 pages are free: chunk is the size, so room for 1 will do", 9);
        x.due(0, write(1, 1, 99));
        x.due(0, erases(1));
        x.due(8, free());
    }

    /** 38 live pages: two blocks have 7 of them, three blocks 8; file 7 is of size 0. */
    private static Run twoBlocksWithOneMarkedPage(String name) {
        Run x = begin(name);
        fillWithFiles(x, 1, 37);
        x.due(7, create(0, 7, false));
        x.due(8, free());
        x.due(0, erases(4));
        x.due(0, erases(5));
        x.due(38, live());
        return x;
    }

    /** The number of live pages, counted by their tags. */
    private static Call live() {
        return new Call("the number of live pages", x -> {
            int live = 0;
            for (int place = 0; place < 48; place++) {
                int tags = x.tags(place / 8, place % 8);
                live += tags >= 0 && (tags & MARKED) == 0 ? 1 : 0;
            }
            return live;
        });
    }

    private static void roomStopsAsSoonAsThereIsEnough() {
        Run x = twoBlocksWithOneMarkedPage("room for 1 page: one of two blocks is collected");
        x.due(0, write(1, 1, 99));
        x.due(2, erases(4));
        x.due(0, erases(5));
        x.due(8, free());
        Run y = twoBlocksWithOneMarkedPage("room for 2 pages: both blocks are collected");
        y.due(0, write(7, 1, 99));
        y.due(2, erases(4));
        y.due(2, erases(5));
        y.due(8, free());
    }

    /** Blocks 0 .. 4 are full and have 7, 2, 2, 3 and 4 live pages. */
    private static Run blocksOfSeveralLivePages(String name) {
        Run x = begin(name);
        fillWithFiles(x, 1, 7);
        for (int file = 2; file <= 5; file++) {
            putHeader(x, file, 4);
        }
        x.due(6, create(0, 6, false));
        x.due(0, write(6, 6, 6));
        x.due(0, write(6, 1, 1), 5);
        x.due(7, create(0, 7, false));
        x.due(0, write(7, 6, 6));
        x.due(0, write(7, 1, 1));
        x.due(0, write(7, 2, 2), 4);
        x.due(8, free());
        x.due(18, live());
        return x;
    }

    private static void roomTakesTheFewestLivePages() {
        Run x = blocksOfSeveralLivePages("the block with the fewest live pages is collected");
        x.due(0, remove(5));
        x.due(0, write(1, 1, 99));
        for (int block = 0; block <= 5; block++) {
            x.due(block == 2 ? 2 : 0, erases(block));
        }
        x.due(headerTags(4, 0, 0, 0), tags(5, 0));
        x.due(chunkTags(1, 1, 1), tags(5, 1));
        Run y = blocksOfSeveralLivePages("a block without a live page goes first");
        y.due(0, remove(7));
        y.due(0, write(1, 1, 99));
        for (int block = 0; block <= 5; block++) {
            y.due(block == 4 ? 2 : 0, erases(block));
        }
    }

    private static void roomTakesTheLowestOfSeveral() {
        Run x = blocksOfSeveralLivePages("among several the lowest is collected");
        x.due(0, write(1, 1, 99));
        for (int block = 0; block <= 5; block++) {
            x.due(block == 1 ? 2 : 0, erases(block));
        }
        x.due(headerTags(2, 0, 0, 0), tags(5, 0));
        x.due(headerTags(3, 0, 0, 0), tags(5, 1));
        x.due(chunkTags(1, 1, 1), tags(5, 2));
        Run y = oneHeaderInEachBlock("among five the lowest is collected");
        y.due(0, move(5, 0, 1));
        for (int block = 0; block <= 5; block++) {
            y.due(block == 0 ? 2 : 0, erases(block));
        }
    }

    private static void noRoomForOne() {
        Run x = sixFilesWithoutRoom("40 live pages: no room for 1 page");
        x.idle(NO_SPACE, create(0, 7, false));
        x.idle(NO_SPACE, create(0, 7, true));
        x.idle(NO_SPACE, write(1, 1, 99));
        x.idle(NO_SPACE, write(1, 6, 99));
        x.idle(NO_SPACE, write(6, 5, 99));
        x.idle(NO_SPACE, truncate(1, 5));
        x.idle(NO_SPACE, truncate(1, 0));
        x.idle(NO_SPACE, move(1, 0, 1));
        x.idle(NO_SPACE, move(1, 0, 99));
        Call[] calls = {create(0, 7, false), write(1, 1, 99), write(6, 5, 99), truncate(1, 5),
            move(1, 0, 1)};
        for (Call call : calls) {
            Run y = begin("39 live pages: room for 1 page");
            fillWithFiles(y, 1, 39);
            y.due(39, live());
            Check.due(call.text() + " is done", y.make(call) >= 0, true);
            y.due(8, free());
        }
    }

    private static void noRoomForTwo() {
        Run x = begin("39 live pages: no room for 2 pages");
        fillWithFiles(x, 1, 38);
        x.due(7, create(0, 7, false));
        x.due(39, live());
        x.due(NO_SPACE, write(7, 1, 71));
        x.idle(NO_SPACE, write(7, 1, 71));
        x.idle(NO_SPACE, write(7, 6, 76));
        x.due(0, size(7));
        x.due(39, live());
        Run y = twoBlocksWithOneMarkedPage("38 live pages: room for 2 pages");
        y.due(0, write(7, 1, 71));
        y.due(1, size(7));
        y.due(39, live());
        y.due(NO_SPACE, write(7, 2, 72));
        y.due(1, size(7));
        y.due(0, write(7, 1, 73));
        y.due(73, read(7, 1));
    }

    private static String tree(Run x) {
        StringBuilder text = new StringBuilder();
        Prospect.tree(text, x.again());
        return text.toString();
    }

    private static void whatWasCollectedStays() {
        Run x = begin("what was collected before NO_SPACE stays so");
        fillWithFiles(x, 1, 38);
        x.due(7, create(0, 7, false));
        x.due(8, free());
        x.due(0, erases(5));
        String tree = tree(x);
        int steps = (int) x.make(steps());
        x.due(NO_SPACE, write(7, 1, 71));
        x.due(2, erases(5));
        x.due(9, free());
        x.due(steps + 2 * 7 + 1, steps());
        Check.due("the tree", tree(x), tree);
        x.idle(NO_SPACE, write(7, 1, 71));
        x.due(0, move(7, 0, 77));
        x.due(8, free());
    }

    private static void whatWasCollectedStaysWithWornBlocks() {
        Call[] calls = {create(0, 9, true), write(1, 1, 99), write(1, 2, 99), truncate(1, 0),
            move(1, 0, 9)};
        for (Call call : calls) {
            Run x = writtenUntilFree("what was collected before NO_SPACE stays, all worn", 8);
            for (int block = 0; block <= 5; block++) {
                x.due(YES, wear(block));
            }
            String tree = tree(x);
            x.due(NO_SPACE, call);
            for (int block = 0; block <= 4; block++) {
                x.due(1, erases(block));
            }
            x.due(0, erases(5));
            x.due(headerTags(1, 2, 0, 1), tags(5, 0));
            x.due(chunkTags(1, 1, 2), tags(5, 1));
            x.due(6, free());
            Check.due("the tree", tree(x), tree);
            x.idle(NO_SPACE, call);
        }
    }

    private static void noRoomIsNeeded() {
        Run x = sixFilesWithoutRoom("what puts no page needs no room");
        x.idle(0, truncate(1, 6));
        x.idle(6, size(0));
        x.idle(1, find(0, 1));
        x.idle(5, read(1, 5));
        x.due(40, checkpoint());
        x.due(48, mount(true));
        x.due(0, remove(6));
        x.due(35, checkpoint());
        x.due(6, create(0, 6, false));
    }

    private static void powerFailsWhileCollecting() {
        Run x = sevenLivePagesInBlockNought("the power fails while a block is collected");
        x.make(cut(0));
        x.due(OFF, create(0, 3, false));
        x.due(OFF, size(0));
        x.due(48, mount(true));
        x.due(2, size(0));
        x.due(3, create(0, 3, false));
    }
}
