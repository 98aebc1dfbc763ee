/** The boundary cases of 'Terms' up to the steps, and of promises 1 and 15 to 20. */
public final class ChipBoundaryTest extends Boundaries {
    private static final int[] NO_BLOCKS = {MIN, -8, -6, -1, 6, 7, 8, 48, MAX};
    private static final int[] NO_PAGES = {MIN, -8, -7, -1, 8, 9, 16, 47, MAX};
    private static final int[] NO_BITS = {MIN, -39, -1, 39, 40, 63, 64, MAX};
    private static final int[] WORDS = {MIN, MIN + 1, -2, -1, 0, 1, 2, 0x5555AAAA, MAX - 1, MAX};

    public static void main(String[] args) {
        promise1AllBlocksGoodAndEmpty();
        promise1NotWorn();
        promise1OnlyTheRootIsThere();
        promise1ThePowerWillNotFail();
        termsSixBlocksOfEightPages();
        termsAnyIntIsAWord();
        termsObjectsOneToSeven();
        termsChunksNoughtToSix();
        termsSerialsNoughtToThree();
        termsParentNoughtToSevenAndKind();
        termsSizeNoughtToSix();
        termsOtherPagesHaveNeitherParentNorSize();
        termsNoneOneAndTwoBitsOfAWord();
        termsNoneOneAndTwoBitsOfAName();
        termsTagsAndMarksAreNeverHit();
        termsPagesAreProgrammedInOrder();
        termsNextPageInABegunBlock();
        termsNextPageInTheLowestEmptyBlock();
        termsNextPageNotInABadBlock();
        termsNoBitIsTurnedWhenAPageIsProgrammed();
        promise15Bits();
        promise15OutOfBounds();
        promise15Unprogrammed();
        promise15TwoBitsAlready();
        promise15BadBlock();
        promise15NoStepAndNoTouch();
        promise15WhileOffAndOnMarkedPages();
        promise16OutOfBounds();
        promise16WornAlready();
        promise16BadAlready();
        promise16NoStepAndNoTouch();
        promise16WhileOff();
        promise17OutOfBounds();
        promise17WhileOff();
        promise17OfABadBlock();
        promise18FullAndEmpty();
        promise18WithBadBlocksOnly();
        promise18WhileOff();
        promise19OutOfBounds();
        promise19BecomingBadDoesNotCount();
        promise19WhileOff();
        promise20OnlyWhatWasDone();
        promise20WhileOff();
        Check.end();
    }

    private static void promise1AllBlocksGoodAndEmpty() {
        Run x = begin("1: all blocks good, without programmed pages");
        for (int block = 0; block <= 5; block++) {
            x.due(0, erases(block));
            for (int page = 0; page <= 7; page++) {
                x.due(UNPROGRAMMED, tags(block, page));
            }
        }
        x.due(48, free());
        x.due(0, steps());
        x.due(48, mount(true));
    }

    private static void promise1NotWorn() {
        Run x = begin("1: not worn");
        for (int block = 0; block <= 5; block++) {
            x.due(YES, wear(block));
        }
    }

    private static void promise1OnlyTheRootIsThere() {
        Run x = begin("1: the system is on, only the root is there");
        x.due(0, size(0));
        for (int object = 1; object <= 7; object++) {
            x.due(NO_OBJECT, size(object));
            x.due(NO_OBJECT, parentOf(object));
        }
        x.due(0, find(0, 0));
        x.due(0, checkpoint());
    }

    private static void promise1ThePowerWillNotFail() {
        Run x = begin("1: the power will not fail, in 512 calls");
        x.due(0, checkpoint(), 511);
        x.due(1022, steps());
    }

    private static void termsSixBlocksOfEightPages() {
        Run x = begin("6 blocks (0 .. 5) of 8 pages (0 .. 7)");
        x.due(-1, tags(-1, 0));
        x.due(-1, tags(0, -1));
        x.due(UNPROGRAMMED, tags(0, 0));
        x.due(UNPROGRAMMED, tags(0, 7));
        x.due(-1, tags(0, 8));
        x.due(UNPROGRAMMED, tags(5, 0));
        x.due(UNPROGRAMMED, tags(5, 7));
        x.due(-1, tags(5, 8));
        x.due(-1, tags(6, 0));
        x.due(-1, tags(6, 7));
    }

    private static void termsAnyIntIsAWord() {
        for (int word : WORDS) {
            Run x = begin("a word is any int");
            x.due(1, create(0, word, false));
            x.due(word, nameOf(1));
            x.due(1, find(0, word));
            x.due(0, write(1, 1, word));
            x.due(word, read(1, 1));
            x.due(YES, flip(0, 1, 31));
            x.due(word, read(1, 1));
            x.due(YES, flip(0, 2, 0));
            x.due(word, nameOf(1));
            x.due(1, find(0, word));
        }
    }

    private static void termsObjectsOneToSeven() {
        Run x = begin("an object 1 .. 7");
        for (int object = 1; object <= 7; object++) {
            x.due(object, create(0, object, false));
            x.due(object, tags(0, object - 1));
        }
        x.due(FULL, create(0, 8, false));
        x.due(UNPROGRAMMED, tags(0, 7));
    }

    private static void termsChunksNoughtToSix() {
        Run x = oneFile("a chunk 0 .. 6");
        x.due(0, write(1, 6, 66));
        x.due(chunkTags(1, 6, 0), tags(0, 1));
        for (int chunk = 1; chunk <= 5; chunk++) {
            x.due(0, write(1, chunk, chunk));
            x.due(chunkTags(1, chunk, 0), tags(0, 2 + chunk));
        }
        x.idle(RANGE, write(1, 0, 1));
        x.idle(RANGE, write(1, 7, 1));
    }

    private static void termsSerialsNoughtToThree() {
        Run x = oneFile("a serial 0 .. 3, and after 3 comes 0");
        int[] serials = {0, 1, 2, 3, 0, 1, 2, 3, 0};
        for (int i = 1; i < serials.length; i++) {
            x.due(0, move(1, 0, 10));
            x.due(headerTags(1, serials[i], 0, 0), tags(i / 8, i % 8));
            x.due(headerTags(1, serials[i - 1], 0, 0) + MARKED, tags((i - 1) / 8, (i - 1) % 8));
        }
        Run y = oneFile("a serial 0 .. 3 of a chunk, and after 3 comes 0");
        y.due(0, write(1, 1, 1));
        for (int i = 1; i < serials.length; i++) {
            y.due(0, write(1, 1, i));
            y.due(chunkTags(1, 1, serials[i]), tags((2 + i) / 8, (2 + i) % 8));
        }
    }

    private static void termsParentNoughtToSevenAndKind() {
        Run x = begin("a header's parent 0 .. 7, and whether it is of a directory");
        for (int object = 1; object <= 7; object++) {
            x.due(object, create(object - 1, 1, true));
            x.due(object + 512 * (object - 1) + DIRECTORY, tags(0, object - 1));
        }
        x.due(0, move(7, 0, 2));
        x.due(7 + 64 + DIRECTORY, tags(0, 7));
        x.due(0, move(1, 7, 1));
        x.due(1 + 64 + 512 * 7 + DIRECTORY, tags(1, 0));
        x.due(7, parentOf(1));
        x.due(0, remove(6));
        x.due(6, create(7, 6, false));
        x.due(headerTags(6, 0, 7, 0), tags(1, 1));
    }

    private static void termsSizeNoughtToSix() {
        Run x = oneFile("a header's size 0 .. 6");
        x.due(headerTags(1, 0, 0, 0), tags(0, 0));
        for (int size = 1; size <= 6; size++) {
            x.due(0, write(1, size, size));
            int place = 2 * size;
            x.due(headerTags(1, size % 4, 0, size), tags(place / 8, place % 8));
            x.due(size, size(1));
        }
        x.due(0, truncate(1, 0));
        x.due(headerTags(1, 3, 0, 0), tags(1, 5));
    }

    private static void termsOtherPagesHaveNeitherParentNorSize() {
        Run x = begin("in other pages these are 0, 0 and false");
        x.due(1, create(0, 1, true));
        x.due(2, create(1, 2, false));
        for (int chunk = 1; chunk <= 6; chunk++) {
            x.due(0, write(2, chunk, -1));
            int place = 2 * chunk;
            x.due(chunkTags(2, chunk, 0), tags(place / 8, place % 8));
        }
        x.due(0, write(2, 6, -1));
        x.due(chunkTags(2, 6, 1), tags(1, 6));
    }

    private static void termsNoneOneAndTwoBitsOfAWord() {
        for (int first = 0; first <= 38; first++) {
            Run x = oneFile("none, one and two bits of a word, from bit " + first);
            x.due(0, write(1, 1, -99));
            x.due(-99, read(1, 1));
            x.due(YES, flip(0, 1, first));
            x.due(-99, read(1, 1));
            for (int second = 0; second <= 38; second++) {
                if (second != first) {
                    Run y = x.again();
                    y.due(YES, flip(0, 1, second));
                    y.due(UNREADABLE, read(1, 1));
                }
            }
            x.due(YES, flip(0, 1, first));
            x.due(-99, read(1, 1));
            x.due(10, nameOf(1));
        }
    }

    private static void termsNoneOneAndTwoBitsOfAName() {
        Run x = oneFile("none, one and two bits of a name");
        x.due(10, nameOf(1));
        x.due(1, find(0, 10));
        x.due(YES, flip(0, 0, 0));
        x.due(10, nameOf(1));
        x.due(1, find(0, 10));
        x.idle(EXISTS, create(0, 10, false));
        x.due(YES, flip(0, 0, 38));
        x.due(UNREADABLE, nameOf(1));
        x.due(0, find(0, 10));
        x.due(2, create(0, 10, false));
    }

    private static void termsTagsAndMarksAreNeverHit() {
        for (int bit = 0; bit <= 38; bit++) {
            Run x = begin("tags and marks are never hit, bit " + bit);
            x.due(1, create(0, 1, true));
            x.due(2, create(1, 2, false));
            x.due(0, write(2, 6, 66));
            for (int page = 0; page <= 3; page++) {
                x.due(YES, flip(0, page, bit));
                x.due(YES, flip(0, page, (bit + 1) % 39));
            }
            x.due(1 + DIRECTORY, tags(0, 0));
            x.due(headerTags(2, 0, 1, 0) + MARKED, tags(0, 1));
            x.due(chunkTags(2, 6, 0), tags(0, 2));
            x.due(headerTags(2, 1, 1, 6), tags(0, 3));
            x.due(1, size(1));
            x.due(6, size(2));
            x.due(1, parentOf(2));
            x.due(NO, flip(0, 1, 5));
            x.due(48, mount(true));
            x.due(headerTags(2, 0, 1, 0) + MARKED, tags(0, 1));
        }
    }

    private static void termsPagesAreProgrammedInOrder() {
        Run x = begin("the pages of a block are programmed in the order 0, 1, ..");
        x.due(1, create(0, 0, false));
        for (int place = 1; place < 40; place++) {
            x.due(UNPROGRAMMED, tags(place / 8, place % 8));
            x.due(0, move(1, 0, place));
            x.due(headerTags(1, place % 4, 0, 0), tags(place / 8, place % 8));
            x.due(47 - place, free());
        }
    }

    /** Block 0 becomes empty while block 5 is begun: 5 goes first until it is full. */
    private static void termsNextPageInABegunBlock() {
        Run x = oneHeaderInEachBlock("the next page lies in the block that was begun");
        x.due(0, move(1, 0, 50));
        x.due(2, erases(0));
        x.due(headerTags(1, 0, 0, 0) + MARKED, tags(5, 0));
        for (int page = 1; page <= 6; page++) {
            x.due(headerTags(1, page % 4, 0, 0), tags(5, page));
            x.due(UNPROGRAMMED, tags(5, page + 1));
            x.due(UNPROGRAMMED, tags(0, 0));
            x.due(0, move(1, 0, 50 + page));
        }
        x.due(headerTags(1, 3, 0, 0), tags(5, 7));
        x.due(UNPROGRAMMED, tags(0, 0));
        // Block 1 is collected next: the header of 2 comes first, then that of 1.
        x.due(0, move(1, 0, 60));
        x.due(headerTags(2, 0, 0, 0), tags(0, 0));
        x.due(headerTags(1, 0, 0, 0), tags(0, 1));
        x.due(UNPROGRAMMED, tags(0, 2));
        x.due(UNPROGRAMMED, tags(1, 0));
    }

    private static void termsNextPageInTheLowestEmptyBlock() {
        Run x = oneLivePageInBlockFour("the next page lies in the lowest empty block");
        // ROOM erases block 0, then page 0 of it is lower than page 0 of block 5.
        x.due(UNPROGRAMMED, tags(5, 0));
        x.due(0, move(1, 0, 100));
        x.due(headerTags(1, 0, 0, 0), tags(0, 0));
        x.due(UNPROGRAMMED, tags(5, 0));
    }

    private static void termsNextPageNotInABadBlock() {
        Run x = oneLivePageInBlockFour("the next page lies in a good block");
        x.due(YES, wear(0));
        x.due(0, move(1, 0, 100));
        x.due(1, erases(0));
        x.due(2, erases(1));
        x.due(headerTags(1, 0, 0, 0) + MARKED, tags(0, 0));
        x.due(headerTags(1, 0, 0, 0), tags(1, 0));
        x.due(0, move(1, 0, 101), 7);
        x.due(0, move(1, 0, 102));
        x.due(1, erases(0));
        x.due(2, erases(2));
        x.due(headerTags(1, 0, 0, 0), tags(2, 0));
    }

    private static void termsNoBitIsTurnedWhenAPageIsProgrammed() {
        Run x = oneLivePageInBlockFour("no bit of a page is turned when it is programmed");
        x.due(YES, flip(0, 0, 1));
        x.due(YES, flip(0, 0, 2));
        x.due(YES, flip(0, 1, 3));
        x.due(0, move(1, 0, 100));
        x.due(2, erases(0));
        x.due(100, nameOf(1));
        x.due(YES, flip(0, 0, 1));
        x.due(100, nameOf(1));
        x.due(YES, flip(0, 0, 2));
        x.due(UNREADABLE, nameOf(1));
        x.due(0, move(1, 0, 101));
        x.due(YES, flip(0, 1, 3));
        x.due(101, nameOf(1));
        x.due(YES, flip(0, 1, 4));
        x.due(UNREADABLE, nameOf(1));
    }

    private static void promise15Bits() {
        for (int bit : new int[] {0, 1, 31, 32, 37, 38}) {
            Run x = oneFile("15: turns a bit round, or back, bit " + bit);
            x.due(YES, flip(0, 0, bit));
            x.due(10, nameOf(1));
            x.due(YES, flip(0, 0, bit));
            x.due(10, nameOf(1));
            int other = bit == 5 ? 6 : 5;
            x.due(YES, flip(0, 0, other));
            x.due(10, nameOf(1));
            x.due(YES, flip(0, 0, bit));
            x.due(UNREADABLE, nameOf(1));
        }
    }

    private static void promise15OutOfBounds() {
        Run x = oneFile("15: false when block, page or bit is out of bounds");
        x.due(0, move(1, 0, 11), 8);
        for (int block : NO_BLOCKS) {
            x.idle(NO, flip(block, 0, 0));
        }
        for (int page : NO_PAGES) {
            x.idle(NO, flip(0, page, 0));
            x.idle(NO, flip(1, page, 0));
        }
        for (int bit : NO_BITS) {
            x.idle(NO, flip(0, 0, bit));
            x.idle(NO, flip(1, 0, bit));
        }
        Run y = oneFile("15: false beside the bounds, with a single page");
        y.idle(NO, flip(0, 0, -1));
        y.idle(NO, flip(0, 0, 39));
        y.idle(NO, flip(0, -1, 0));
        y.idle(NO, flip(0, 8, 0));
        y.idle(NO, flip(-1, 0, 0));
        y.idle(NO, flip(6, 0, 0));
    }

    private static void promise15Unprogrammed() {
        Run x = oneFile("15: false when the page is unprogrammed");
        x.idle(NO, flip(0, 1, 0));
        x.idle(NO, flip(0, 7, 38));
        x.idle(NO, flip(1, 0, 0));
        x.idle(NO, flip(5, 7, 38));
        x.due(YES, flip(0, 0, 0));
        Run y = oneLivePageInBlockFour("15: false when the page was erased");
        y.due(YES, flip(0, 7, 0));
        y.due(0, move(1, 0, 100));
        y.idle(NO, flip(0, 7, 0));
        y.due(YES, flip(0, 0, 0));
    }

    private static void promise15TwoBitsAlready() {
        Run x = oneFile("15: false when two bits (whichever) are turned already");
        x.due(YES, flip(0, 0, 7));
        x.due(YES, flip(0, 0, 31));
        for (int bit = 0; bit <= 38; bit++) {
            x.due(NO, flip(0, 0, bit));
            x.due(UNREADABLE, nameOf(1));
        }
        x.idle(NO, flip(0, 0, 7));
        x.idle(NO, flip(0, 0, 31));
        x.idle(NO, flip(0, 0, 8));
    }

    private static void promise15BadBlock() {
        Run x = oneLivePageInBlockFour("15: false when the block is BAD");
        x.due(YES, wear(0));
        x.due(YES, flip(0, 0, 0));
        x.due(0, move(1, 0, 100));
        x.due(1, erases(0));
        x.idle(NO, flip(0, 0, 0));
        x.idle(NO, flip(0, 1, 0));
        x.idle(NO, flip(0, 7, 38));
        x.due(YES, flip(1, 0, 0));
    }

    private static void promise15NoStepAndNoTouch() {
        Run x = oneFile("15: it is no step, and touches nothing");
        x.due(1, checkpoint());
        x.make(cut(0));
        x.due(YES, flip(0, 0, 1));
        x.due(YES, flip(0, 0, 1));
        x.due(3, steps());
        x.due(1, mount(false));
        x.due(OFF, checkpoint());
    }

    private static void promise15WhileOffAndOnMarkedPages() {
        Run x = oneFile("15: works when the system is off, on live and marked pages alike");
        x.due(0, move(1, 0, 11));
        turnOff(x);
        for (int page = 0; page <= 1; page++) {
            x.due(YES, flip(0, page, 0));
            x.due(YES, flip(0, page, 0));
            x.due(YES, flip(0, page, 1));
            x.due(YES, flip(0, page, 2));
            x.due(NO, flip(0, page, 3));
        }
        x.idle(NO, flip(0, 2, 0));
        x.idle(NO, flip(6, 0, 0));
        x.due(48, mount(false));
        x.due(UNREADABLE, nameOf(1));
    }

    private static void promise16OutOfBounds() {
        Run x = oneFile("16: false when block is not 0 .. 5");
        for (int block : NO_BLOCKS) {
            x.idle(NO, wear(block));
        }
        x.due(YES, wear(0));
        x.due(YES, wear(5));
    }

    private static void promise16WornAlready() {
        Run x = oneFile("16: false when the block is WORN already");
        x.due(YES, wear(0));
        x.idle(NO, wear(0));
        x.due(YES, wear(1));
        x.idle(NO, wear(1));
        x.due(0, erases(0));
        x.due(0, move(1, 0, 11));
    }

    private static void promise16BadAlready() {
        Run x = oneLivePageInBlockFour("16: false when the block is BAD");
        x.due(YES, wear(0));
        x.due(0, move(1, 0, 100));
        x.due(1, erases(0));
        x.idle(NO, wear(0));
        x.due(YES, wear(1));
    }

    private static void promise16NoStepAndNoTouch() {
        Run x = oneFile("16: it is no step, and touches nothing");
        x.due(1, checkpoint());
        x.make(cut(0));
        x.due(YES, wear(0));
        x.due(3, steps());
        x.due(47, free());
        x.due(1, mount(false));
        x.due(OFF, checkpoint());
    }

    private static void promise16WhileOff() {
        Run x = oneLivePageInBlockFour("16: works when the system is off");
        turnOff(x);
        x.due(YES, wear(0));
        x.idle(NO, wear(0));
        x.idle(NO, wear(6));
        x.due(48, mount(true));
        x.due(0, move(1, 0, 100));
        x.due(1, erases(0));
        x.due(2, erases(1));
    }

    private static void promise17OutOfBounds() {
        Run x = oneFile("17: -1 when block is not 0 .. 5 or page not 0 .. 7");
        x.due(0, move(1, 0, 11), 8);
        for (int block : NO_BLOCKS) {
            x.idle(-1, tags(block, 0));
            x.due(-1, tags(block, 7));
        }
        for (int page : NO_PAGES) {
            x.idle(-1, tags(0, page));
            x.due(-1, tags(1, page));
            x.due(-1, tags(5, page));
        }
        x.idle(UNPROGRAMMED, tags(5, 7));
        x.idle(headerTags(1, 0, 0, 0), tags(1, 0));
        x.idle(UNPROGRAMMED, tags(1, 1));
        Run y = oneFile("17: -1 beside the bounds, with a single page");
        y.idle(-1, tags(-1, 0));
        y.idle(-1, tags(6, 0));
        y.idle(-1, tags(0, -1));
        y.idle(-1, tags(0, 8));
    }

    private static void promise17WhileOff() {
        Run x = oneFile("17: works when the system is off");
        x.due(0, move(1, 0, 11));
        turnOff(x);
        x.idle(headerTags(1, 0, 0, 0) + MARKED, tags(0, 0));
        x.idle(headerTags(1, 1, 0, 0), tags(0, 1));
        x.idle(UNPROGRAMMED, tags(0, 2));
        x.idle(-1, tags(0, 8));
        x.idle(-1, tags(6, 0));
    }

    private static void promise17OfABadBlock() {
        Run x = oneLivePageInBlockFour("17: works for BAD blocks, whose pages stay as they are");
        x.due(YES, wear(0));
        x.due(0, move(1, 0, 100));
        x.due(1, erases(0));
        for (int page = 0; page <= 7; page++) {
            x.idle(headerTags(1, page % 4, 0, 0) + MARKED, tags(0, page));
        }
        x.idle(-1, tags(0, 8));
    }

    private static void promise18FullAndEmpty() {
        Run x = begin("18: the unprogrammed pages in good blocks");
        x.due(48, free());
        x.due(1, create(0, 10, false));
        x.idle(47, free());
        x.due(0, remove(1));
        x.due(47, free());
        Run y = oneLivePageInBlockFour("18: after collecting");
        y.due(8, free());
        y.due(0, move(1, 0, 100));
        y.due(15, free());
    }

    /** All six blocks become BAD, one after the other: then nothing is free, nor can be. */
    private static void promise18WithBadBlocksOnly() {
        Run x = allBlocksBad("18: no page is free when all blocks are BAD");
        x.idle(0, free());
        x.idle(NO_SPACE, create(0, 1, false));
        x.due(0, mount(true));
        x.due(0, checkpoint());
        x.due(1, mount(false));
        x.due(0, size(0));
        for (int block = 0; block <= 5; block++) {
            x.idle(NO, wear(block));
            x.idle(NO, flip(block, 7, 0));
            x.due(1, erases(block));
        }
    }

    private static Run allBlocksBad(String name) {
        Run x = sevenLivePagesInBlockNought(name);
        for (int block = 0; block <= 5; block++) {
            x.due(YES, wear(block));
        }
        x.due(NO_SPACE, move(2, 0, 999));
        // Blocks 0 .. 4 are BAD now, and their eight live pages fill block 5.
        x.due(0, free());
        x.due(0, erases(5));
        x.due(0, remove(1));
        x.due(0, remove(2));
        x.due(NO_SPACE, create(0, 1, false));
        return x;
    }

    private static void promise18WhileOff() {
        Run x = oneFile("18: also when the system is off");
        turnOff(x);
        x.idle(47, free());
        Run y = begin("18: also when the system is off, and nothing programmed");
        turnOff(y);
        y.idle(48, free());
    }

    private static void promise19OutOfBounds() {
        Run x = oneFile("19: -1 when block is not 0 .. 5");
        for (int block : NO_BLOCKS) {
            x.idle(-1, erases(block));
        }
        x.idle(0, erases(0));
        x.idle(0, erases(5));
    }

    private static void promise19BecomingBadDoesNotCount() {
        Run x = oneLivePageInBlockFour("19: twice the times it was erased, plus 1 when BAD");
        x.due(0, erases(0));
        x.due(0, move(1, 0, 100));
        x.due(2, erases(0));
        x.due(YES, wear(0));
        x.due(2, erases(0));
        // 7 moves fill block 0 again; the next ones erase the block that is lowest of those
        // without a live page: 1, then 0 by turns.
        x.due(0, move(1, 0, 101), 7);
        x.due(0, move(1, 0, 102));
        x.due(2, erases(1));
        x.due(0, move(1, 0, 103), 7);
        x.due(0, move(1, 0, 104));
        x.due(3, erases(0));
        x.due(2, erases(2));
        x.due(2, erases(1));
    }

    private static void promise19WhileOff() {
        Run x = oneLivePageInBlockFour("19: works when the system is off");
        x.due(YES, wear(0));
        x.due(0, move(1, 0, 100));
        turnOff(x);
        x.idle(1, erases(0));
        x.idle(2, erases(1));
        x.idle(0, erases(5));
        x.idle(-1, erases(6));
        x.idle(-1, erases(-1));
    }

    private static void promise20OnlyWhatWasDone() {
        Run x = begin("20: the steps that were done");
        x.idle(0, steps());
        x.due(1, create(0, 10, false));
        x.due(1, steps());
        x.due(EXISTS, create(0, 10, false));
        x.due(1, steps());
        x.make(cut(0));
        x.due(OFF, move(1, 0, 11));
        x.due(1, steps());
        x.due(48, mount(true));
        x.make(cut(1));
        x.due(OFF, move(1, 0, 11));
        x.due(2, steps());
        x.due(48, mount(true));
        x.due(3, steps());
    }

    private static void promise20WhileOff() {
        Run x = oneFile("20: works when the system is off");
        turnOff(x);
        x.idle(1, steps());
        x.due(48, mount(true));
        x.idle(1, steps());
    }
}
