/** Promises 15 to 19 and what 'Terms' says of the chip: bits, the next page, collecting, room. */
public final class ChipPromisesTest {
    private static final long UNREADABLE = 4294967296L;

    public static void main(String[] args) {
        promise15Flip();
        promise15FlipRefused();
        promise15FlipWhileOffAndOnMarkedPages();
        promise15FlipOnBadBlock();
        promise16Wear();
        promise17Tags();
        promise18Free();
        promise19Erases();
        collectingPutsLivePagesAnew();
        collectingTakesTheFewestLivePages();
        collectingTakesOverBits();
        collectingBeforeNoSpaceStays();
        collectingAsManyLivePagesAsAreFree();
        collectingCutAtEveryStep();
        wornBlocksBecomeBad();
        Check.end();
    }

    private static SpareTagFlash begin(String name) {
        Check.begin(name);
        SpareTagFlash x = new SpareTagFlash();
        Check.due("create 1", x.create(0, 10, false), 1);
        return x;
    }

    private static void write(SpareTagFlash x, int object, int chunk, int times) {
        for (int i = 1; i <= times; i++) {
            Check.due("write", x.write(object, chunk, i), 0);
        }
    }

    private static void promise15Flip() {
        for (int bit = 0; bit <= 38; bit++) {
            SpareTagFlash x = begin("15, flip of bit " + bit);
            Check.due("write", x.write(1, 1, 0x5555AAAA), 0);
            int steps = x.steps();
            Check.due("flip", x.flip(0, 1, bit), true);
            Check.due("put right", x.read(1, 1), 0x5555AAAA);
            Check.due("back", x.flip(0, 1, bit), true);
            Check.due("another", x.flip(0, 1, (bit + 1) % 39), true);
            Check.due("put right", x.read(1, 1), 0x5555AAAA);
            Check.due("two", x.flip(0, 1, bit), true);
            Check.due("told", x.read(1, 1), UNREADABLE);
            Check.due("no way back", x.flip(0, 1, bit), false);
            Check.due("no third", x.flip(0, 1, (bit + 2) % 39), false);
            Check.due("told", x.read(1, 1), UNREADABLE);
            Check.due("the tags are not hit", x.tags(0, 1), 1 + 8);
            Check.due("no step", x.steps(), steps);
        }
    }

    private static void promise15FlipRefused() {
        SpareTagFlash x = begin("15, flip refused");
        int[] wrong = {Integer.MIN_VALUE, -1, 39, 48, Integer.MAX_VALUE};
        for (int n : wrong) {
            Check.due("block", x.flip(n, 0, 0), false);
            Check.due("page", x.flip(0, n, 0), false);
            Check.due("bit", x.flip(0, 0, n), false);
        }
        Check.due("block 6", x.flip(6, 0, 0), false);
        Check.due("page 8", x.flip(0, 8, 0), false);
        Check.due("unprogrammed", x.flip(0, 1, 0), false);
        Check.due("unprogrammed", x.flip(5, 7, 38), false);
        Check.due("nothing was turned", x.flip(0, 0, 3), true);
        Check.due("nameOf", x.nameOf(1), 10);
        Check.due("write", x.write(1, 1, 5), 0);
        Check.due("page -1 of block 1", x.flip(1, -7, 0), false);
    }

    private static void promise15FlipWhileOffAndOnMarkedPages() {
        SpareTagFlash x = begin("15, flip while off");
        Check.due("move", x.move(1, 0, 11), 0);
        x.cut(0);
        Check.due("move", x.move(1, 0, 12), -9);
        Check.due("live", x.flip(0, 1, 1), true);
        Check.due("live", x.flip(0, 1, 2), true);
        Check.due("marked", x.flip(0, 0, 1), true);
        Check.due("marked", x.flip(0, 0, 2), true);
        Check.due("marked, no third", x.flip(0, 0, 3), false);
        Check.due("mount", x.mount(true), 48);
        Check.due("nameOf", x.nameOf(1), UNREADABLE);
    }

    private static void promise15FlipOnBadBlock() {
        SpareTagFlash x = begin("15, flip on a bad block");
        write(x, 1, 1, 38);
        Check.due("wear", x.wear(1), true);
        Check.due("worn is not bad", x.flip(1, 0, 0), true);
        write(x, 1, 1, 1);
        Check.due("erases(1)", x.erases(1), 1);
        Check.due("bad", x.flip(1, 1, 5), false);
        Check.due("good", x.flip(2, 0, 5), true);
    }

    private static void promise16Wear() {
        SpareTagFlash x = begin("16, wear");
        Check.due("wear(-1)", x.wear(-1), false);
        Check.due("wear(6)", x.wear(6), false);
        Check.due("wear(MAX)", x.wear(Integer.MAX_VALUE), false);
        Check.due("wear(MIN)", x.wear(Integer.MIN_VALUE), false);
        Check.due("wear(1)", x.wear(1), true);
        Check.due("wear(1) again", x.wear(1), false);
        Check.due("steps()", x.steps(), 1);
        Check.due("free()", x.free(), 47);
        write(x, 1, 1, 39);
        Check.due("erases(1)", x.erases(1), 1);
        Check.due("wear of a bad block", x.wear(1), false);
        x.cut(0);
        Check.due("write", x.write(1, 1, 1), -9);
        Check.due("while off", x.wear(5), true);
        Check.due("while off", x.wear(5), false);
        Check.due("erases(5)", x.erases(5), 0);
    }

    private static void promise17Tags() {
        SpareTagFlash x = begin("17, tags");
        int[] wrong = {Integer.MIN_VALUE, -1, 8, Integer.MAX_VALUE};
        for (int n : wrong) {
            Check.due("block", x.tags(n, 0), -1);
            Check.due("page", x.tags(0, n), -1);
        }
        Check.due("block 6", x.tags(6, 0), -1);
        Check.due("unprogrammed", x.tags(0, 1), -2);
        Check.due("unprogrammed", x.tags(5, 7), -2);
        for (int object = 2; object <= 6; object++) {
            Check.due("create", x.create(0, object, true), object);
        }
        Check.due("create", x.create(6, 7, true), 7);
        Check.due("parent, directory", x.tags(0, 6), 7 + 512 * 6 + 32768);
        Check.due("move", x.move(1, 7, 1), 0);
        Check.due("parent", x.tags(0, 7), 1 + 64 + 512 * 7);
        Check.due("write", x.write(1, 6, 1), 0);
        Check.due("a chunk has no parent", x.tags(1, 0), 1 + 8 * 6);
        Check.due("size", x.tags(1, 1), 1 + 128 + 512 * 7 + 4096 * 6);
        Check.due("marked", x.tags(0, 7), 1 + 64 + 256 + 512 * 7);
        x.cut(0);
        Check.due("write", x.write(1, 1, 1), -9);
        Check.due("while off", x.tags(1, 1), 1 + 128 + 512 * 7 + 4096 * 6);
        Check.due("while off", x.tags(1, 2), -2);
        Check.due("while off", x.tags(1, 8), -1);
    }

    private static void promise18Free() {
        SpareTagFlash x = begin("18, free");
        Check.due("free()", x.free(), 47);
        Check.due("write", x.write(1, 1, 1), 0);
        Check.due("free()", x.free(), 45);
        Check.due("remove", x.remove(1), 0);
        Check.due("marking frees nothing", x.free(), 45);
        x.cut(1);
        Check.due("create", x.create(0, 1, false), 1);
        Check.due("write", x.write(1, 1, 1), -9);
        Check.due("while off", x.free(), 44);
        Check.due("mount", x.mount(true), 48);
        write(x, 1, 1, 34);
        Check.due("free()", x.free(), 9);
        Check.due("wear", x.wear(0), true);
        write(x, 1, 1, 2);
        // Block 0 became bad, block 1 was erased instead.
        Check.due("free()", x.free(), 8 + 8 - 1);
    }

    private static void promise19Erases() {
        SpareTagFlash x = begin("19, erases");
        Check.due("erases(-1)", x.erases(-1), -1);
        Check.due("erases(6)", x.erases(6), -1);
        Check.due("erases(MIN)", x.erases(Integer.MIN_VALUE), -1);
        write(x, 1, 1, 200);
        // Of 202 pages the first 40 fill blocks 0 .. 4; then blocks 1 and 2 are erased by turns,
        // and the last 162 need 21 of them.
        Check.due("erases(0)", x.erases(0), 0);
        Check.due("erases(1)", x.erases(1), 22);
        Check.due("erases(2)", x.erases(2), 20);
        Check.due("erases(3)", x.erases(3), 0);
        Check.due("wear", x.wear(1), true);
        Check.due("worn is not bad", x.erases(1), 22);
        write(x, 1, 1, 60);
        Check.due("becoming bad adds 1", x.erases(1), 23);
        x.cut(0);
        Check.due("write", x.write(1, 1, 1), -9);
        Check.due("while off", x.erases(1), 23);
        Check.due("while off", x.erases(7), -1);
    }

    /** Fills blocks 0 .. 4: block 0 with headers and chunks, the rest with old pages of 1. */
    private static SpareTagFlash fiveBlocks(String name) {
        SpareTagFlash x = begin(name);
        Check.due("create 2", x.create(0, 20, true), 2);
        Check.due("create 3", x.create(2, 30, false), 3);
        Check.due("write", x.write(3, 4, 34), 0);
        write(x, 1, 1, 34);
        Check.due("free()", x.free(), 8);
        return x;
    }

    private static void collectingPutsLivePagesAnew() {
        SpareTagFlash x = fiveBlocks("collecting");
        // Block 0: 1's old header, 2, 3's old header, 3.4, 3, 1.1 old, 1, 1.1 old.
        Check.due("header of 1", x.tags(0, 6), 1 + 64 + 4096);
        int steps = x.steps();
        Check.due("write", x.write(1, 1, 77), 0);
        // Block 1 has no live page: it is erased, and nothing is put.
        Check.due("erases(1)", x.erases(1), 2);
        Check.due("erase, program, mark", x.steps(), steps + 3);
        Check.due("free()", x.free(), 15);
        Check.due("the next page is in block 1", x.tags(1, 0) > 0, true);
        write(x, 1, 1, 7);
        Check.due("free()", x.free(), 8);
        Check.due("erases(2)", x.erases(2), 0);
        write(x, 1, 1, 1);
        Check.due("erases(2)", x.erases(2), 2);
        write(x, 1, 1, 16);
        Check.due("the lowest: 1 again", x.erases(1), 4);
        Check.due("and 2 again", x.erases(2), 4);
        Check.due("erases(3)", x.erases(3), 0);
        Check.due("erases(0)", x.erases(0), 0);
        Check.due("find", x.find(2, 30), 3);
        Check.due("read", x.read(3, 4), 34);
    }

    private static void collectingTakesTheFewestLivePages() {
        SpareTagFlash x = begin("the block with the fewest live pages");
        for (int object = 2; object <= 7; object++) {
            Check.due("create", x.create(0, object, false), object);
        }
        Check.due("write", x.write(1, 6, 66), 0);
        for (int chunk = 1; chunk <= 5; chunk++) {
            write(x, 1, chunk, 1);
        }
        write(x, 1, 6, 2);
        write(x, 1, 1, 6);
        write(x, 1, 2, 1);
        write(x, 1, 3, 1);
        write(x, 1, 4, 7);
        write(x, 1, 5, 1);
        write(x, 1, 5, 8);
        // Live: 2 .. 7 in block 0, 1 and 1.6 in 1, 1.1 to 1.3 in 2, 1.4 in 3, 1.5 in 4.
        Check.due("free()", x.free(), 8);
        write(x, 1, 1, 1);
        for (int block = 0; block < 6; block++) {
            Check.due("erases(" + block + ")", x.erases(block), block == 3 ? 2 : 0);
        }
        Check.due("1.4 was put", x.tags(5, 0) & 63, 1 + 8 * 4);
        Check.due("then 1.1", x.tags(5, 1) & 63, 1 + 8);
        Check.due("read", x.read(1, 4), 7);
        write(x, 1, 1, 6);
        Check.due("free()", x.free(), 8);
        // Now block 4 alone has a single live page; blocks 1, 2 and 5 have two each.
        write(x, 1, 1, 1);
        Check.due("erases(4)", x.erases(4), 2);
        Check.due("1.5 was put", x.tags(3, 0) & 63, 1 + 8 * 5);
        Check.due("free()", x.free(), 14);
    }

    /** Three live pages in block 0 and one at the end of each of the blocks 1 .. 4. */
    private static SpareTagFlash oneLivePageInEachBlock(String name) {
        SpareTagFlash x = begin(name);
        Check.due("write", x.write(1, 5, 55), 0);
        write(x, 1, 1, 5);
        for (int chunk = 2; chunk <= 4; chunk++) {
            write(x, 1, chunk, 8);
        }
        Check.due("create", x.create(0, 2, true), 2);
        for (int newName = 3; newName <= 9; newName++) {
            Check.due("move", x.move(2, 0, newName), 0);
        }
        Check.due("free()", x.free(), 8);
        return x;
    }

    private static void collectingTakesOverBits() {
        SpareTagFlash x = oneLivePageInEachBlock("collecting takes over bits");
        // Live: block 0 has 1's header, 1.5 and 1.1; the others have their last page.
        Check.due("1.2", x.tags(1, 7), 1 + 16 + 192);
        Check.due("flip", x.flip(1, 7, 0), true);
        Check.due("flip", x.flip(2, 7, 0), true);
        Check.due("flip", x.flip(2, 7, 1), true);
        Check.due("flip", x.flip(5, 0, 0), false);
        int steps = x.steps();
        Check.due("write", x.write(1, 1, 6), 0);
        Check.due("program, mark, erase, program, mark", x.steps(), steps + 5);
        Check.due("erases(1)", x.erases(1), 2);
        Check.due("1.2 with the serial after 3", x.tags(5, 0), 1 + 16);
        Check.due("then 1.1", x.tags(5, 1), 1 + 8 + 64);
        Check.due("read", x.read(1, 2), 8);
        Check.due("the bit was put right: flip", x.flip(5, 0, 0), true);
        Check.due("one bit", x.read(1, 2), 8);
        write(x, 1, 1, 6);
        Check.due("free()", x.free(), 8);
        write(x, 1, 1, 1);
        Check.due("block 2 next", x.erases(2), 2);
        Check.due("1.3 in block 1", x.tags(1, 0), 1 + 24);
        Check.due("two bits stay", x.read(1, 3), UNREADABLE);
        Check.due("no third", x.flip(1, 0, 5), false);
        Check.due("write", x.write(1, 3, 3), 0);
        Check.due("read", x.read(1, 3), 3);
    }

    private static void collectingBeforeNoSpaceStays() {
        SpareTagFlash x = oneLivePageInEachBlock("collecting before NO_SPACE");
        for (int block = 0; block < 6; block++) {
            Check.due("wear", x.wear(block), true);
        }
        int steps = x.steps();
        Check.due("write", x.write(1, 1, 6), -6);
        Check.due("steps were done", x.steps() > steps, true);
        Check.due("erases(1)", x.erases(1), 1);
        Check.due("erases(5)", x.erases(5), 0);
        Check.due("the old word", x.read(1, 1), 5);
        Check.due("read", x.read(1, 5), 55);
        Check.due("size", x.size(1), 5);
        // Blocks 1 .. 4 gave one page each, block 0 three; then block 5 has one free page.
        Check.due("free()", x.free(), 1);
        Check.due("mount", x.mount(true), 8);
        Check.due("again", x.write(1, 1, 6), -6);
        Check.due("remove", x.remove(2), 0);
        Check.due("find", x.find(0, 10), 1);
    }

    private static void collectingAsManyLivePagesAsAreFree() {
        SpareTagFlash x = begin("as many live pages as are free");
        Check.due("write", x.write(1, 6, 66), 0);
        write(x, 1, 5, 1);
        write(x, 1, 1, 4);
        for (int chunk = 2; chunk <= 4; chunk++) {
            write(x, 1, chunk, 8);
        }
        Check.due("create", x.create(0, 2, true), 2);
        for (int newName = 3; newName <= 9; newName++) {
            Check.due("move", x.move(2, 0, newName), 0);
        }
        for (int block = 0; block <= 4; block++) {
            Check.due("wear", x.wear(block), true);
        }
        // Blocks 1 .. 4 have one live page each and block 0 has four: 8 in all, and 8 are free.
        Check.due("free()", x.free(), 8);
        Check.due("write", x.write(1, 1, 5), -6);
        Check.due("block 0 was collected too", x.erases(0), 1);
        Check.due("free()", x.free(), 0);
        Check.due("1.6 was put", x.tags(5, 4) & 63, 1 + 48);
        Check.due("1.1 was put last", x.tags(5, 7) & 63, 1 + 8);
        Check.due("mount", x.mount(false), 8);
        Check.due("read", x.read(1, 6), 66);
    }

    private static void collectingCutAtEveryStep() {
        for (int n = 0; n < 5; n++) {
            SpareTagFlash x = oneLivePageInEachBlock("collecting cut after " + n);
            x.cut(n);
            Check.due("write", x.write(1, 1, 6), -9);
            Check.due("1.2 in block 5", x.tags(5, 0), n >= 1 ? 1 + 16 : -2);
            Check.due("erases(1)", x.erases(1), n >= 3 ? 2 : 0);
            Check.due("mount", x.mount(true), 48);
            Check.due("1.1", x.read(1, 1), n == 4 ? 6 : 5);
            for (int chunk = 2; chunk <= 4; chunk++) {
                Check.due("read", x.read(1, chunk), 8);
            }
            Check.due("1.5", x.read(1, 5), 55);
            Check.due("find", x.find(0, 9), 2);
        }
    }

    private static void wornBlocksBecomeBad() {
        SpareTagFlash x = oneLivePageInEachBlock("a worn block becomes bad");
        Check.due("wear", x.wear(1), true);
        Check.due("write", x.write(1, 1, 6), 0);
        Check.due("erases(1)", x.erases(1), 1);
        Check.due("erases(2)", x.erases(2), 2);
        Check.due("its pages stay", x.tags(1, 7), 1 + 16 + 192 + 256);
        Check.due("1.2", x.tags(5, 0), 1 + 16);
        Check.due("1.3", x.tags(5, 1), 1 + 24);
        Check.due("1.1", x.tags(5, 2), 1 + 8 + 64);
        Check.due("free()", x.free(), 13);
        Check.due("mount", x.mount(true), 40);
        write(x, 1, 1, 5);
        Check.due("the next page is in block 2", x.tags(5, 7) >= 0, true);
        Check.due("free()", x.free(), 8);
        write(x, 1, 1, 1);
        Check.due("block 2, not the bad one", x.tags(2, 0) >= 0, true);
        Check.due("erases(1)", x.erases(1), 1);
    }
}
