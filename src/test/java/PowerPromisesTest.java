/** Promises 12 to 14 and 20: the region, mounting, the power and the steps. */
public final class PowerPromisesTest {
    private static final long REFUSED = 8589934592L;

    public static void main(String[] args) {
        promise12Checkpoint();
        promise12CheckpointCut();
        promise13MountWhileOn();
        promise13MountLooksIntoTouchedBlocks();
        promise13MarkingWhileMountingTouches();
        promise13BadBlocksAreNotLookedInto();
        promise13ErasingTouches();
        promise13StaleInTheFirstPage();
        promise13StaleAreMarkedInOrder();
        promise13StaleOverTheSerialsEnd();
        promise13StalePagesOfUntouchedBlocks();
        promise13MountCut();
        promise14Cut();
        promise14CutOnce();
        promise14CutOutOfBounds();
        promise20Steps();
        Check.end();
    }

    private static SpareTagFlash begin(String name) {
        Check.begin(name);
        SpareTagFlash x = new SpareTagFlash();
        Check.due("create 1", x.create(0, 10, false), 1);
        return x;
    }

    private static void promise12Checkpoint() {
        SpareTagFlash x = new SpareTagFlash();
        Check.begin("12, checkpoint");
        Check.due("of nothing", x.checkpoint(), 0);
        Check.due("two steps", x.steps(), 2);
        Check.due("mount", x.mount(false), 1);
        Check.due("create", x.create(0, 1, false), 1);
        Check.due("write", x.write(1, 1, 1), 0);
        Check.due("header and chunk", x.checkpoint(), 2);
        Check.due("nothing is programmed", x.free(), 45);
        Check.due("mount", x.mount(false), 1);
        Check.due("read", x.read(1, 1), 1);
        Check.due("steps()", x.steps(), 8);
        x.cut(0);
        Check.due("no power", x.checkpoint(), -9);
        Check.due("off", x.checkpoint(), -9);
        Check.due("steps()", x.steps(), 8);
    }

    private static void promise12CheckpointCut() {
        SpareTagFlash x = begin("12, checkpoint cut");
        Check.due("checkpoint", x.checkpoint(), 1);
        x.cut(0);
        Check.due("at the first step", x.checkpoint(), -9);
        Check.due("the region is VALID still", x.mount(false), 1);
        Check.due("write", x.write(1, 1, 1), 0);
        x.cut(0);
        Check.due("at the first step", x.checkpoint(), -9);
        Check.due("and block 0 touched still", x.mount(false), 9);
        x.cut(1);
        Check.due("at the second step", x.checkpoint(), -9);
        Check.due("the region is not VALID", x.mount(false), 48);
        Check.due("nor again", x.mount(false), 48);
        Check.due("checkpoint", x.checkpoint(), 2);
        Check.due("VALID", x.mount(false), 1);
    }

    private static void promise13MountWhileOn() {
        SpareTagFlash x = begin("13, mount while on");
        Check.due("write", x.write(1, 2, 22), 0);
        int steps = x.steps();
        x.cut(0);
        Check.due("no step", x.mount(true), 48);
        Check.due("mount(false)", x.mount(false), 48);
        Check.due("steps()", x.steps(), steps);
        Check.due("read", x.read(1, 2), 22);
        Check.due("the power fails later", x.write(1, 1, 1), -9);
        Check.due("off", x.size(0), -9);
        Check.due("mount", x.mount(true), 48);
        Check.due("on", x.size(0), 1);
    }

    private static void promise13MountLooksIntoTouchedBlocks() {
        SpareTagFlash x = begin("13, the touched blocks");
        for (int i = 0; i < 6; i++) {
            Check.due("write", x.write(1, 1, i), 0);
        }
        // Block 0 is full: header, chunk, header, chunk four times more, chunk.
        Check.due("free", x.free(), 40);
        Check.due("checkpoint", x.checkpoint(), 2);
        Check.due("scan, though VALID", x.mount(true), 48);
        Check.due("no block", x.mount(false), 1);
        Check.due("no step, no touch", x.flip(0, 7, 1), true);
        Check.due("no step, no touch", x.wear(3), true);
        Check.due("no block", x.mount(false), 1);
        Check.due("into block 1, beside the rest", x.create(0, 2, false), 2);
        Check.due("block 1", x.mount(false), 9);
        Check.due("block 1 still", x.mount(false), 9);
        Check.due("marks in block 0", x.write(1, 1, 7), 0);
        Check.due("blocks 0 and 1", x.mount(false), 17);
        Check.due("read", x.read(1, 1), 7);
        Check.due("checkpoint", x.checkpoint(), 3);
        Check.due("no block", x.mount(false), 1);
        Check.due("remove touches by marking", x.remove(2), 0);
        Check.due("block 1", x.mount(false), 9);
    }

    private static void promise13MarkingWhileMountingTouches() {
        SpareTagFlash x = begin("13, marking while mounting");
        for (int i = 0; i < 6; i++) {
            Check.due("write", x.write(1, 1, i), 0);
        }
        Check.due("checkpoint", x.checkpoint(), 2);
        x.cut(1);
        Check.due("write", x.write(1, 1, 7), -9);
        Check.due("block 1", x.mount(false), 9);
        Check.due("the page in block 0 is marked", x.tags(0, 7), 1 + 8 + 64 + 256);
        Check.due("and block 0 touched by that", x.mount(false), 17);
        Check.due("read", x.read(1, 1), 7);
    }

    private static void promise13BadBlocksAreNotLookedInto() {
        SpareTagFlash x = begin("13, bad blocks");
        Check.due("wear", x.wear(1), true);
        for (int i = 0; i < 38; i++) {
            Check.due("write", x.write(1, 1, i), 0);
        }
        Check.due("free", x.free(), 8);
        Check.due("checkpoint", x.checkpoint(), 2);
        Check.due("write", x.write(1, 1, 99), 0);
        // Block 0 has a live header; blocks 1 to 3 have no live page, block 4 the old chunk.
        Check.due("block 1 is bad", x.erases(1), 1);
        Check.due("block 2 is erased", x.erases(2), 2);
        Check.due("scan", x.mount(true), 40);
        Check.due("blocks 2 and 4; 1 is bad", x.mount(false), 17);
        Check.due("read", x.read(1, 1), 99);
        Check.due("the pages of block 1 stay", x.tags(1, 7) >= 256, true);
    }

    private static void promise13ErasingTouches() {
        for (int n = 1; n <= 2; n++) {
            SpareTagFlash x = begin("13, erasing touches, with " + n + " steps");
            for (int i = 0; i < 38; i++) {
                Check.due("write", x.write(1, 1, i), 0);
            }
            Check.due("wear", x.wear(n == 2 ? 1 : 5), true);
            Check.due("checkpoint", x.checkpoint(), 2);
            x.cut(n);
            Check.due("write", x.write(1, 1, 99), -9);
            Check.due("erases(1)", x.erases(1), n == 2 ? 1 : 2);
            Check.due("erases(2)", x.erases(2), n == 2 ? 2 : 0);
            Check.due("the erased block, not the bad one", x.mount(false), 9);
            Check.due("read", x.read(1, 1), 37);
        }
    }

    private static void promise13StaleInTheFirstPage() {
        SpareTagFlash x = begin("13, the first page");
        x.cut(1);
        Check.due("move", x.move(1, 0, 11), -9);
        Check.due("mount", x.mount(true), 48);
        Check.due("the old header is stale", x.tags(0, 0), 1 + 256);
        Check.due("nameOf", x.nameOf(1), 11);
    }

    private static void promise13StaleAreMarkedInOrder() {
        for (int n = 0; n < 3; n++) {
            SpareTagFlash x = begin("13, the order of stale pages, cut after " + n);
            Check.due("write", x.write(1, 2, 22), 0);
            Check.due("write", x.write(1, 1, 11), 0);
            x.cut(1);
            Check.due("truncate", x.truncate(1, 0), -9);
            // 1: chunk 2, 2: the header with size 2, 3: chunk 1, 4: the header with size 0.
            x.cut(n);
            Check.due("mount", x.mount(true), -9);
            Check.due("off", x.size(1), -9);
            Check.due("chunk 2", x.tags(0, 1), 1 + 16 + (n >= 1 ? 256 : 0));
            Check.due("header", x.tags(0, 2), 1 + 64 + 4096 * 2 + (n >= 2 ? 256 : 0));
            Check.due("chunk 1", x.tags(0, 3), 1 + 8);
            Check.due("new header", x.tags(0, 4), 1 + 128);
            Check.due("mount", x.mount(true), 48);
            Check.due("chunk 1", x.tags(0, 3), 1 + 8 + 256);
            Check.due("new header", x.tags(0, 4), 1 + 128);
            Check.due("size", x.size(1), 0);
            Check.due("steps()", x.steps(), 9);
        }
    }

    private static void promise13StaleOverTheSerialsEnd() {
        SpareTagFlash x = begin("13, serial 0 after 3");
        for (int i = 0; i < 4; i++) {
            Check.due("write", x.write(1, 1, i), 0);
        }
        Check.due("serial 3", x.tags(0, 5), 1 + 8 + 192);
        x.cut(1);
        Check.due("write", x.write(1, 1, 4), -9);
        Check.due("serial 0", x.tags(0, 6), 1 + 8);
        Check.due("mount", x.mount(true), 48);
        Check.due("serial 3 is stale", x.tags(0, 5), 1 + 8 + 192 + 256);
        Check.due("serial 0 is not", x.tags(0, 6), 1 + 8);
        Check.due("read", x.read(1, 1), 4);
    }

    private static void promise13StalePagesOfUntouchedBlocks() {
        SpareTagFlash x = begin("13, stale pages where nothing was touched");
        Check.due("write", x.write(1, 1, 1), 0);
        Check.due("write", x.write(1, 2, 2), 0);
        Check.due("write", x.write(1, 3, 3), 0);
        Check.due("write", x.write(1, 1, 4), 0);
        Check.due("free", x.free(), 40);
        Check.due("checkpoint", x.checkpoint(), 4);
        x.cut(1);
        Check.due("truncate", x.truncate(1, 1), -9);
        Check.due("block 1 and the region", x.mount(false), 9);
        Check.due("the header in block 0", x.tags(0, 6), 1 + 192 + 256 + 4096 * 3);
        Check.due("chunk 2 in block 0", x.tags(0, 3), 1 + 16 + 256);
        Check.due("chunk 3 in block 0", x.tags(0, 5), 1 + 24 + 256);
        Check.due("chunk 1 stays", x.tags(0, 7), 1 + 8 + 64);
        Check.due("size", x.size(1), 1);
    }

    private static void promise13MountCut() {
        SpareTagFlash x = begin("13, mount cut");
        Check.due("write", x.write(1, 1, 1), 0);
        x.cut(1);
        Check.due("remove", x.remove(1), -9);
        x.cut(0);
        Check.due("mount", x.mount(false), -9);
        Check.due("off", x.find(0, 10), -9);
        Check.due("off", x.read(1, 1), REFUSED - 9);
        Check.due("mount", x.mount(false), 48);
        Check.due("the orphan is marked", x.tags(0, 1), 1 + 8 + 256);
        Check.due("gone", x.find(0, 10), 0);
    }

    private static void promise14Cut() {
        SpareTagFlash x = begin("14, cut");
        x.cut(3);
        Check.due("three steps", x.write(1, 1, 1), 0);
        Check.due("the fourth fails", x.write(1, 1, 2), -9);
        Check.due("steps()", x.steps(), 4);
        x.cut(0);
        Check.due("a mount without a step", x.mount(true), 48);
        Check.due("keeps the cut", x.write(1, 1, 2), -9);
        x.cut(1);
        x.cut(5);
        x.cut(2);
        Check.due("mount", x.mount(true), 48);
        Check.due("only the latest counts", x.write(1, 1, 3), 0);
        Check.due("only the latest counts", x.write(1, 1, 4), -9);
        Check.due("mount", x.mount(true), 48);
        Check.due("read", x.read(1, 1), 3);
        x.cut(0);
        Check.due("asking is no step", x.read(1, 1), 3);
        Check.due("asking is no step", x.size(0), 1);
        Check.due("a refused call is none", x.write(1, 7, 1), -7);
        Check.due("flip is none", x.flip(0, 0, 0), true);
        Check.due("wear is none", x.wear(5), true);
        Check.due("remove", x.remove(1), -9);
    }

    private static void promise14CutOnce() {
        SpareTagFlash x = begin("14, the power fails once");
        x.cut(0);
        Check.due("write", x.write(1, 1, 1), -9);
        Check.due("mount", x.mount(true), 48);
        for (int i = 0; i < 20; i++) {
            Check.due("write", x.write(1, 1, i), 0);
        }
    }

    private static void promise14CutOutOfBounds() {
        int[] none = {-1, 1001, Integer.MIN_VALUE, Integer.MAX_VALUE};
        for (int n : none) {
            SpareTagFlash x = begin("14, cut(" + n + ")");
            x.cut(1);
            x.cut(n);
            for (int i = 0; i < 200; i++) {
                Check.due("write", x.write(1, 1, i), 0);
                Check.due("truncate", x.truncate(1, 0), 0);
            }
            Check.due("more than 1001 steps", x.steps() > 1002, true);
        }
        SpareTagFlash x = begin("14, cut(1000)");
        x.cut(1000);
        int steps = x.steps();
        for (int i = 0; i < 400 && x.size(0) == 1; i++) {
            int answer = i % 2 == 0 ? x.write(1, 1, i) : x.truncate(1, 0);
            Check.due("done, or off", answer, x.size(0) == 1 ? 0 : -9);
        }
        Check.due("off in the end", x.size(0), -9);
        Check.due("after 1000 steps", x.steps(), steps + 1000);
    }

    private static void promise20Steps() {
        SpareTagFlash x = new SpareTagFlash();
        Check.begin("20, steps");
        Check.due("at first", x.steps(), 0);
        Check.due("create", x.create(0, 1, false), 1);
        Check.due("programmed", x.steps(), 1);
        Check.due("move", x.move(1, 0, 2), 0);
        Check.due("programmed, marked", x.steps(), 3);
        Check.due("checkpoint", x.checkpoint(), 1);
        Check.due("two more", x.steps(), 5);
        Check.due("refused", x.create(0, 2, true), -4);
        Check.due("none", x.steps(), 5);
        x.cut(1);
        Check.due("move", x.move(1, 0, 3), -9);
        Check.due("the one that failed is not counted", x.steps(), 6);
        Check.due("mount", x.mount(true), 48);
        Check.due("marked", x.steps(), 7);
        for (int i = 0; i < 36; i++) {
            Check.due("move", x.move(1, 0, i), 0);
        }
        Check.due("free", x.free(), 9);
        Check.due("steps", x.steps(), 79);
        Check.due("move", x.move(1, 0, 36), 0);
        Check.due("steps", x.steps(), 81);
        Check.due("move", x.move(1, 0, 37), 0);
        Check.due("erasing is a step", x.steps(), 84);
        Check.due("block 0 is erased", x.erases(0), 2);
    }
}
