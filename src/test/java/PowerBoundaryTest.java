/** The boundary cases of promises 12 to 14, and of what 'Terms' says of steps and the region. */
public final class PowerBoundaryTest extends Boundaries {
    public static void main(String[] args) {
        termsTheRegionAtFirst();
        termsProgrammingTouches();
        termsMarkingTouches();
        termsErasingTouches();
        termsBecomingBadIsNotLookedInto();
        termsAStepThatFailsIsNotDone();
        termsOffUntilMount();
        termsOffForEveryCall();
        promise12LivePages();
        promise12TwoSteps();
        promise12CutAtTheFirstStep();
        promise12CutAtTheSecondStep();
        promise12NoBlockCountsAsTouched();
        promise12Off();
        promise13WhenItIsOn();
        promise13NothingStale();
        promise13AllGoodBlocks();
        promise13GoodBlocksThatWereTouched();
        promise13ScanThoughValid();
        promise13SerialOneMore();
        promise13SerialOneMoreOfAnother();
        promise13NoLiveHeader();
        promise13ChunkGreaterThanTheSize();
        promise13TheHeaderThatIsNotStale();
        promise13TheHeaderInTheFirstPage();
        promise13TheHeaderInTheLastPage();
        promise13InTheOrderOfBlocksAndPages();
        promise13SettledBeforeTheFirstIsMarked();
        promise13PowerFails();
        promise13StaleInUntouchedBlocks();
        promise13ItsMarksTouch();
        promise14Bounds();
        promise14Thousand();
        promise14AnyOther();
        promise14Once();
        promise14OnlyTheLatest();
        promise14WhenOff();
        promise14OnlyStepsCount();
        Check.end();
    }

    private static void termsTheRegionAtFirst() {
        Run x = begin("the region is not VALID at first");
        x.idle(48, mount(false));
        x.due(0, checkpoint());
        x.idle(1, mount(false));
    }

    private static void termsProgrammingTouches() {
        Run x = oneFile("programming touches the block, and no other one");
        x.due(0, move(1, 0, 10), 6);
        x.due(1, checkpoint());
        x.due(1, mount(false));
        // Page 7 of block 0, then page 0 of block 1.
        x.due(2, create(0, 20, false));
        x.idle(9, mount(false));
        x.due(2, checkpoint());
        x.due(3, create(0, 30, false));
        x.due(UNPROGRAMMED, tags(1, 1));
        x.idle(9, mount(false));
    }

    private static void termsMarkingTouches() {
        Run x = oneFile("marking touches the block, and no other one");
        x.due(0, move(1, 0, 10), 6);
        x.due(2, create(0, 20, false));
        x.due(3, create(0, 30, false));
        x.due(3, checkpoint());
        x.again().due(1, mount(false));
        Run y = x.again();
        y.due(0, remove(3));
        y.idle(9, mount(false));
        y.due(0, remove(2));
        y.idle(17, mount(false));
        x.due(0, remove(2));
        x.idle(9, mount(false));
        x.due(0, remove(1));
        x.idle(9, mount(false));
    }

    private static void termsErasingTouches() {
        for (int n = 0; n <= 2; n++) {
            Run x = oneLivePageInBlockFour("erasing touches the block, cut after " + n);
            x.due(1, checkpoint());
            x.make(cut(n));
            x.due(OFF, move(1, 0, 99));
            x.due(n < 1 ? 0 : 2, erases(0));
            // The second step programs page 0 of block 0, and block 4 has the old page.
            x.due(n < 1 ? 1 : 9, mount(false));
            x.due(n < 1 ? 1 : n < 2 ? 9 : 17, mount(false));
        }
    }

    private static void termsBecomingBadIsNotLookedInto() {
        Run x = oneLivePageInBlockFour("a block that became BAD is not looked into");
        x.due(YES, wear(0));
        x.due(YES, wear(1));
        x.due(1, checkpoint());
        x.make(cut(1));
        x.due(OFF, move(1, 0, 99));
        x.due(1, erases(0));
        x.due(1, mount(false));
        x.due(40, mount(true));
        x.make(cut(1));
        x.due(OFF, move(1, 0, 99));
        x.due(1, erases(1));
        x.due(1, mount(false));
        x.due(32, mount(true));
    }

    private static void termsAStepThatFailsIsNotDone() {
        Call[] calls = {create(0, 50, false), write(3, 1, 9), write(4, 1, 9), truncate(3, 0),
            move(4, 0, 9), remove(4), checkpoint()};
        for (Call call : calls) {
            Run x = smallTree("the power fails at the first step of " + call.text());
            x.due(6, checkpoint());
            Run before = x.again();
            x.make(cut(0));
            x.due(OFF, call);
            x.due(OFF, size(0));
            x.due(1, mount(false));
            // But for the failure that was spent it is as if the call had not been made.
            Prospect.compare(call.text(), Prospect.of(before), Prospect.of(x));
        }
    }

    private static void termsOffUntilMount() {
        Run x = smallTree("the system is off until mount() brings it on");
        x.make(cut(1));
        x.due(OFF, move(4, 0, 41));
        x.idle(OFF, size(0));
        x.idle(OFF, find(0, 40));
        x.idle(OFF, checkpoint());
        x.make(cut(-1));
        x.idle(OFF, size(0));
        x.due(YES, flip(0, 0, 1));
        x.due(YES, wear(5));
        x.idle(OFF, size(0));
        x.due(48, mount(true));
        x.due(41, nameOf(4));
        x.due(2, size(0));
    }

    private static void termsOffForEveryCall() {
        Run x = smallTree("OFF when the system is off");
        turnOff(x);
        Call[] calls = {create(0, 50, false), create(1, 50, true), write(3, 1, 1), write(4, 6, 1),
            truncate(3, 0), truncate(3, 3), move(4, 0, 41), move(4, 1, 40), remove(4), find(0, 10),
            find(2, 0), size(0), size(3), parentOf(1), parentOf(3), checkpoint()};
        for (Call call : calls) {
            x.idle(OFF, call);
        }
        x.idle(REFUSED + OFF, read(3, 1));
        x.idle(REFUSED + OFF, read(3, 2));
        x.idle(REFUSED + OFF, nameOf(1));
        x.idle(REFUSED + OFF, nameOf(3));
        x.due(48, mount(true));
        x.due(31, read(3, 1));
    }

    private static void promise12LivePages() {
        Run x = begin("12: the number of live pages");
        x.due(0, checkpoint());
        x.due(1, create(0, 10, true));
        x.due(1, checkpoint());
        x.due(2, create(1, 10, false));
        x.due(2, checkpoint());
        x.due(0, write(2, 1, 1));
        x.due(3, checkpoint());
        x.due(0, move(1, 0, 11));
        x.due(3, checkpoint());
        x.due(0, remove(2));
        x.due(1, checkpoint());
        x.due(0, remove(1));
        x.due(0, checkpoint());
        sixFilesWithoutRoom("12: 40 live pages").due(40, checkpoint());
    }

    private static void promise12TwoSteps() {
        for (int n = 0; n <= 2; n++) {
            Run x = oneFile("12: two steps, cut after " + n);
            int free = (int) x.make(free());
            x.make(cut(n));
            x.due(n < 2 ? OFF : 1, checkpoint());
            x.due(1 + n, steps());
            x.due(free, free());
            x.due(n < 2 ? 48 : 1, mount(false));
        }
    }

    private static void promise12CutAtTheFirstStep() {
        Run x = oneFile("12: the first step fails, so the region is VALID still");
        x.due(1, checkpoint());
        x.make(cut(0));
        x.due(OFF, checkpoint());
        x.due(1, mount(false));
        x.due(0, move(1, 0, 11));
        x.make(cut(0));
        x.due(OFF, checkpoint());
        x.due(9, mount(false));
    }

    private static void promise12CutAtTheSecondStep() {
        Run x = oneFile("12: the first step makes the region not VALID");
        x.due(1, checkpoint());
        x.make(cut(1));
        x.due(OFF, checkpoint());
        x.due(48, mount(false));
        x.due(48, mount(false));
        x.due(1, checkpoint());
        x.due(1, mount(false));
    }

    private static void promise12NoBlockCountsAsTouched() {
        Run x = oneHeaderInEachBlock("12: no block counts as touched then");
        x.due(5, checkpoint());
        x.due(1, mount(false));
        x.due(0, move(5, 0, 1));
        // Block 0 was collected into block 5, and the header of 5 in block 4 was marked.
        x.due(25, mount(false));
        x.due(5, checkpoint());
        x.due(1, mount(false));
    }

    private static void promise12Off() {
        Run x = oneFile("12: OFF when the system is off");
        x.due(1, checkpoint());
        turnOff(x);
        x.idle(OFF, checkpoint());
        x.due(1, mount(false));
    }

    private static void promise13WhenItIsOn() {
        Run x = smallTree("13: if it is on, it is switched off before, without a step");
        x.make(cut(0));
        x.idle(48, mount(true));
        x.idle(48, mount(false));
        x.due(48, mount(true));
        x.due(2, size(0));
        x.due(OFF, remove(4));
    }

    private static void promise13NothingStale() {
        smallTree("13: nothing is stale").idle(48, mount(true));
        sixFilesWithoutRoom("13: nothing of 40 live pages is stale").idle(48, mount(true));
        allObjectsWithoutRoom("13: nothing of 7 objects is stale").idle(48, mount(true));
        begin("13: nothing is there").idle(48, mount(true));
        Run x = smallTree("13: nothing is stale when the power failed before the first step");
        turnOff(x);
        x.make(cut(0));
        x.due(48, mount(true));
        x.due(2, size(0));
    }

    private static void promise13AllGoodBlocks() {
        Run x = oneLivePageInBlockFour("13: all good blocks are looked into, 8 pages for each");
        for (int block = 0; block <= 5; block++) {
            x.due(YES, wear(block));
        }
        for (int bad = 1; bad <= 4; bad++) {
            x.make(cut(1));
            x.due(OFF, move(1, 0, 99));
            x.due(1, erases(bad - 1));
            x.due(48 - 8 * bad, mount(true));
            x.due(48 - 8 * bad, mount(false));
        }
        x.due(NO_SPACE, move(1, 0, 99));
        x.due(8, mount(true));
        x.due(8, mount(false));
        x.due(1, checkpoint());
        x.due(1, mount(false));
        x.due(8, mount(true));
    }

    private static void promise13GoodBlocksThatWereTouched() {
        Run x = begin("13: the good blocks that were touched, 8 pages for each, and 1 more");
        x.due(0, checkpoint());
        x.idle(1, mount(false));
        for (int file = 1; file <= 5; file++) {
            putHeader(x, file, 8);
            x.due(8 * file + 1, mount(false));
        }
        x.due(0, move(5, 0, 1));
        x.idle(49, mount(false));
        x.idle(48, mount(true));
    }

    private static void promise13ScanThoughValid() {
        Run x = oneFile("13: with scan all good blocks, and not 1 more");
        x.due(1, checkpoint());
        x.due(48, mount(true));
        x.due(1, mount(false));
        x.due(48, mount(true));
        x.due(0, move(1, 0, 11));
        x.due(48, mount(true));
        x.due(9, mount(false));
    }

    private static void promise13SerialOneMore() {
        for (int serial = 0; serial <= 3; serial++) {
            int next = (serial + 1) % 4;
            Run x = oneFile("13: a page is stale when another has a serial one more, " + serial);
            x.due(0, move(1, 0, 11), serial);
            x.make(cut(1));
            x.due(OFF, move(1, 0, 12));
            x.due(headerTags(1, serial, 0, 0), tags(0, serial));
            x.due(headerTags(1, next, 0, 0), tags(0, serial + 1));
            x.due(48, mount(true));
            x.due(headerTags(1, serial, 0, 0) + MARKED, tags(0, serial));
            x.due(headerTags(1, next, 0, 0), tags(0, serial + 1));
            x.due(12, nameOf(1));
            Run y = oneFile("13: a page is stale when another has a serial one more, " + serial);
            y.due(0, write(1, 1, 1), serial + 1);
            y.make(cut(1));
            y.due(OFF, write(1, 1, 2));
            int place = serial == 0 ? 1 : 2 + serial;
            y.due(chunkTags(1, 1, serial), tags(0, place));
            y.due(48, mount(true));
            y.due(chunkTags(1, 1, serial) + MARKED, tags(0, place));
            y.due(chunkTags(1, 1, next), tags(0, 3 + serial));
            y.due(2, read(1, 1));
        }
    }

    private static void promise13SerialOneMoreOfAnother() {
        Run x = oneFile("13: a serial one more of another object or chunk makes nothing stale");
        x.due(2, create(0, 20, false));
        x.due(0, write(1, 6, 6));
        x.due(0, write(2, 6, 6), 2);
        for (int chunk = 1; chunk <= 4; chunk++) {
            x.due(0, write(1, chunk, chunk), chunk);
            x.due(0, write(2, chunk, chunk), 1 + chunk % 4);
        }
        x.idle(48, mount(true));
        x.idle(48, mount(false));
    }

    private static void promise13NoLiveHeader() {
        for (int chunks = 0; chunks <= 6; chunks++) {
            Run x = oneFile("13: a chunk is stale when its object has no live header, " + chunks);
            for (int chunk = 1; chunk <= chunks; chunk++) {
                x.due(0, write(1, chunk, chunk));
            }
            x.due(2, create(0, 20, false));
            x.due(0, write(2, 1, 21));
            int steps = (int) x.make(steps());
            x.make(cut(1));
            x.due(chunks == 0 ? 0 : OFF, remove(1));
            x.due(48, mount(true));
            x.due(steps + 1 + chunks, steps());
            x.make(cut(-1));
            x.due(NO_OBJECT, size(1));
            x.due(21, read(2, 1));
            x.due(2, checkpoint());
        }
    }

    /** Size 2; the power fails after the page of the chunk was programmed. */
    private static void promise13ChunkGreaterThanTheSize() {
        for (int chunk = 1; chunk <= 6; chunk++) {
            Run x = oneFile("13: a page is stale when its chunk is greater than the size, " + chunk);
            x.due(0, write(1, 1, 1));
            x.due(0, write(1, 2, 2));
            x.make(cut(1));
            x.due(OFF, write(1, chunk, 99));
            int put = chunkTags(1, chunk, chunk > 2 ? 0 : 1);
            x.due(put, tags(0, 5));
            x.due(48, mount(true));
            x.due(put + (chunk > 2 ? MARKED : 0), tags(0, 5));
            x.due(2, size(1));
            x.due(chunk == 1 ? 99 : 1, read(1, 1));
            x.due(chunk == 2 ? 99 : 2, read(1, 2));
            x.due(3, checkpoint());
        }
    }

    private static void promise13TheHeaderThatIsNotStale() {
        Run x = oneFile("13: the size is that of the header which is not stale: it grows");
        x.due(0, write(1, 1, 1));
        x.make(cut(2));
        x.due(OFF, write(1, 3, 33));
        x.due(headerTags(1, 1, 0, 1), tags(0, 2));
        x.due(headerTags(1, 2, 0, 3), tags(0, 4));
        x.due(48, mount(true));
        x.due(headerTags(1, 1, 0, 1) + MARKED, tags(0, 2));
        x.due(3, size(1));
        x.due(33, read(1, 3));
        for (int size = 0; size <= 2; size++) {
            Run y = oneFile("13: the size is that of the header which is not stale: " + size);
            for (int chunk = 1; chunk <= 3; chunk++) {
                y.due(0, write(1, chunk, chunk));
            }
            y.make(cut(1));
            y.due(OFF, truncate(1, size));
            y.due(48, mount(true));
            y.due(size, size(1));
            y.due(1 + size, checkpoint());
            for (int chunk = 1; chunk <= 3; chunk++) {
                int marked = chunk > size ? MARKED : 0;
                y.due(chunkTags(1, chunk, 0) + marked, tags(0, 2 * chunk - 1));
            }
        }
    }

    private static void promise13TheHeaderInTheFirstPage() {
        Run x = writtenUntilFree("13: the size is that of a header in page 0 of block 0", 9);
        x.due(0, move(1, 0, 11));
        // Block 0 has no live page any more, so it is collected, and used first.
        x.due(0, move(1, 0, 12));
        x.due(2, erases(0));
        x.due(headerTags(1, 3, 0, 1), tags(0, 0));
        x.idle(48, mount(true));
        x.make(cut(1));
        x.due(OFF, write(1, 2, 99));
        x.due(48, mount(true));
        x.due(chunkTags(1, 2, 0) + MARKED, tags(0, 1));
        x.due(9, read(1, 1));
    }

    private static void promise13TheHeaderInTheLastPage() {
        Run x = oneHeaderInEachBlock("13: the size is that of a header in page 7 of block 5");
        x.due(0, move(1, 0, 11), 5);
        x.due(headerTags(1, 1, 0, 0), tags(5, 5));
        x.make(cut(2));
        x.due(OFF, write(1, 1, 99));
        x.due(chunkTags(1, 1, 0), tags(5, 6));
        x.due(headerTags(1, 2, 0, 1), tags(5, 7));
        x.due(48, mount(true));
        x.due(headerTags(1, 1, 0, 0) + MARKED, tags(5, 5));
        x.due(chunkTags(1, 1, 0), tags(5, 6));
        x.due(headerTags(1, 2, 0, 1), tags(5, 7));
        x.due(99, read(1, 1));
    }

    /** Stale are page 7 of block 0 (chunk 3) and pages 0 (header), 2 (2) and 3 (1) of block 1. */
    private static Run staleInTwoBlocks(String name) {
        Run x = oneFile(name);
        x.due(0, move(1, 0, 10), 6);
        x.due(0, write(1, 3, 3));
        x.due(2, create(0, 20, false));
        x.due(0, write(1, 2, 2));
        x.due(0, write(1, 1, 1));
        x.make(cut(1));
        x.due(OFF, truncate(1, 0));
        x.due(headerTags(1, 0, 0, 0), tags(1, 4));
        return x;
    }

    private static void promise13InTheOrderOfBlocksAndPages() {
        int[] order = {7, 8, 10, 11};
        for (int n = 0; n <= 4; n++) {
            Run x = staleInTwoBlocks("13: marked in the order of blocks and pages, cut after " + n);
            x.make(cut(n));
            x.due(n < 4 ? OFF : 48, mount(true));
            for (int i = 0; i < 4; i++) {
                int marked = (int) x.make(tags(order[i] / 8, order[i] % 8)) & MARKED;
                Check.due("the mark of page " + order[i], marked, i < n ? MARKED : 0);
            }
            x.due(2, tags(1, 1));
        }
    }

    private static void promise13SettledBeforeTheFirstIsMarked() {
        for (int n = 0; n <= 4; n++) {
            Run x = staleInTwoBlocks("13: settled before the first is marked, cut after " + n);
            int steps = (int) x.make(steps());
            x.make(cut(n));
            x.due(n < 4 ? OFF : 48, mount(true));
            x.due(steps + n, steps());
            x.due(48, mount(true));
            x.due(steps + 4, steps());
            x.make(cut(-1));
            x.due(0, size(1));
            x.due(headerTags(1, 0, 0, 0), tags(1, 4));
            x.due(2, checkpoint());
        }
    }

    private static void promise13PowerFails() {
        Run x = staleInTwoBlocks("13: OFF when the power fails");
        x.make(cut(0));
        Run y = x.again();
        x.due(OFF, mount(true));
        x.idle(OFF, size(0));
        x.due(48, mount(true));
        x.due(2, size(0));
        y.due(OFF, mount(false));
        y.due(48, mount(false));
        y.due(2, size(0));
    }

    private static void promise13StaleInUntouchedBlocks() {
        Run x = begin("13: the region bears where stale pages of untouched blocks lie");
        x.due(1, create(0, 10, false));
        x.due(0, write(1, 3, 3));
        x.due(0, write(1, 1, 1));
        x.due(0, write(1, 2, 2), 3);
        // Block 0 is full. Page 0 of block 1 is the header that goes with a new name.
        x.due(0, move(1, 0, 11));
        x.due(4, checkpoint());
        x.make(cut(1));
        x.due(OFF, remove(1));
        x.due(9, mount(false));
        x.due(chunkTags(1, 3, 0) + MARKED, tags(0, 1));
        x.due(chunkTags(1, 1, 0) + MARKED, tags(0, 3));
        x.due(0, size(0));
        x.due(0, checkpoint());
    }

    private static void promise13ItsMarksTouch() {
        Run x = oneFile("13: marking stale pages touches their block for the next mount");
        x.due(0, move(1, 0, 10), 7);
        x.due(1, checkpoint());
        x.make(cut(1));
        x.due(OFF, move(1, 0, 12));
        x.due(9, mount(false));
        x.due(17, mount(false));
        x.due(17, mount(false));
    }

    private static void promise14Bounds() {
        for (int n = 0; n <= 5; n++) {
            Run x = oneFile("14: n will still be done, and at the next one the power fails, " + n);
            x.make(cut(n));
            x.due(n < 1 ? OFF : 2, create(0, 20, false));
            if (n >= 1) {
                x.due(n < 3 ? OFF : 0, move(1, 0, 11));
            }
            if (n >= 3) {
                x.due(n < 5 ? OFF : 2, checkpoint());
            }
            if (n >= 5) {
                x.due(OFF, move(1, 0, 12));
            }
            x.due(1 + n, steps());
            x.due(OFF, size(0));
        }
    }

    private static void promise14Thousand() {
        Run x = begin("14: cut(1000)");
        x.make(cut(1000));
        x.due(0, checkpoint(), 500);
        x.due(1000, steps());
        x.due(OFF, checkpoint());
        x.due(1000, steps());
        Run y = begin("14: cut(999)");
        y.make(cut(999));
        y.due(0, checkpoint(), 499);
        y.due(OFF, checkpoint());
        y.due(999, steps());
        Run z = begin("14: cut(1001)");
        z.make(cut(1001));
        z.due(0, checkpoint(), 505);
        z.due(1010, steps());
    }

    private static void promise14AnyOther() {
        for (int n : new int[] {MIN, MIN + 1, -1000, -2, -1, 1001, 1002, 65536, MAX}) {
            Run x = oneFile("14: any other n, the power will not fail, " + n);
            x.make(cut(0));
            x.make(cut(n));
            x.due(2, create(0, 20, false));
            x.due(0, move(1, 0, 11), 50);
            x.due(2, checkpoint(), 100);
            x.due(2, size(0));
        }
    }

    private static void promise14Once() {
        for (int n = 0; n <= 2; n++) {
            Run x = oneFile("14: the power fails once, " + n);
            x.make(cut(n));
            x.due(n < 2 ? OFF : 0, move(1, 0, 11));
            x.due(OFF, move(1, 0, 12));
            x.due(48, mount(true));
            x.due(1, checkpoint(), 100);
            x.due(0, move(1, 0, 13), 100);
        }
    }

    private static void promise14OnlyTheLatest() {
        Run x = oneFile("14: only the latest call counts: more");
        x.make(cut(0));
        x.make(cut(2));
        x.due(1, checkpoint());
        x.due(OFF, checkpoint());
        Run y = oneFile("14: only the latest call counts: less");
        y.make(cut(2));
        y.make(cut(0));
        y.due(OFF, checkpoint());
        y.due(48, mount(false));
        y.due(1, checkpoint(), 5);
        Run z = oneFile("14: only the latest call counts: counted from then");
        z.make(cut(4));
        z.due(1, checkpoint());
        z.make(cut(4));
        z.due(1, checkpoint(), 2);
        z.due(OFF, checkpoint());
    }

    private static void promise14WhenOff() {
        Run x = oneFile("14: works also when the system is off");
        x.make(cut(1));
        x.due(OFF, move(1, 0, 11));
        x.make(cut(0));
        x.due(OFF, mount(true));
        x.make(cut(1));
        x.due(48, mount(true));
        x.due(OFF, remove(1));
        x.make(cut(0));
        x.make(cut(-1));
        x.due(48, mount(true));
        x.due(0, remove(1));
    }

    private static void promise14OnlyStepsCount() {
        Run x = smallTree("14: what is no step does not count");
        x.make(cut(1));
        Call[] calls = {read(3, 1), find(0, 10), size(0), parentOf(3), nameOf(3), tags(0, 0),
            free(), erases(0), steps(), mount(true), mount(false), truncate(3, 3)};
        for (Call call : calls) {
            x.idle(x.again().make(call), call);
            x.make(call);
        }
        x.due(YES, flip(0, 0, 0));
        x.due(YES, wear(5));
        x.due(EXISTS, create(0, 10, false));
        x.due(NOT_EMPTY, remove(1));
        x.due(0, remove(4));
        x.due(OFF, remove(2));
    }
}
