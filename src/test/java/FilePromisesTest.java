/** Promises 3 to 5: what a file holds. */
public final class FilePromisesTest {
    private static final long REFUSED = 8589934592L;
    private static final long UNREADABLE = 4294967296L;

    public static void main(String[] args) {
        promise3Write();
        promise3WriteRefused();
        promise3RoomForTwo();
        promise3HeaderTakesOverItsWord();
        promise3OrderOfSteps();
        promise4Read();
        promise5Truncate();
        promise5TruncateRefused();
        promise5OrderOfSteps();
        Check.end();
    }

    /** Directory 1 and the file 2, in the root. */
    private static SpareTagFlash begin(String name) {
        Check.begin(name);
        SpareTagFlash x = new SpareTagFlash();
        Check.due("create 1", x.create(0, 10, true), 1);
        Check.due("create 2", x.create(0, 20, false), 2);
        return x;
    }

    private static void turnOff(SpareTagFlash x) {
        x.cut(0);
        Check.due("checkpoint() without power", x.checkpoint(), -9);
    }

    private static void promise3Write() {
        SpareTagFlash x = begin("3, write");
        Check.due("write", x.write(2, 1, Integer.MIN_VALUE), 0);
        Check.due("the chunk comes first", x.tags(0, 2), 2 + 8);
        Check.due("then the header", x.tags(0, 3), 2 + 64 + 4096);
        Check.due("the old header is marked", x.tags(0, 1), 2 + 256);
        Check.due("steps()", x.steps(), 5);
        Check.due("write again", x.write(2, 1, 8), 0);
        Check.due("no header is put", x.steps(), 7);
        Check.due("the new page", x.tags(0, 4), 2 + 8 + 64);
        Check.due("the old page", x.tags(0, 2), 2 + 8 + 256);
        Check.due("write the same", x.write(2, 1, 8), 0);
        Check.due("is put all the same", x.tags(0, 5), 2 + 8 + 128);
        Check.due("write", x.write(2, 6, 66), 0);
        Check.due("size", x.size(2), 6);
        Check.due("write into the hole", x.write(2, 3, 33), 0);
        Check.due("size", x.size(2), 6);
        Check.due("one step", x.steps(), 13);
        Check.due("nameOf", x.nameOf(2), 20);
    }

    private static void promise3WriteRefused() {
        SpareTagFlash x = begin("3, write refused");
        Check.due("the root", x.write(0, 1, 1), -1);
        Check.due("3", x.write(3, 1, 1), -1);
        Check.due("8", x.write(8, 1, 1), -1);
        Check.due("10", x.write(10, 1, 1), -1);
        Check.due("-1", x.write(-1, 1, 1), -1);
        Check.due("a directory", x.write(1, 1, 1), -3);
        Check.due("IS_DIRECTORY comes before RANGE", x.write(1, 9, 1), -3);
        Check.due("chunk 0", x.write(2, 0, 1), -7);
        Check.due("chunk 7", x.write(2, 7, 1), -7);
        Check.due("chunk 8", x.write(2, 8, 1), -7);
        Check.due("chunk -1", x.write(2, -1, 1), -7);
        Check.due("chunk MIN", x.write(2, Integer.MIN_VALUE, 1), -7);
        Check.due("steps()", x.steps(), 2);
        turnOff(x);
        Check.due("off", x.write(9, 9, 1), -9);
    }

    /** 39 live pages: with everything collected 9 pages are free, enough for 1, not for 2. */
    private static void promise3RoomForTwo() {
        SpareTagFlash x = new SpareTagFlash();
        Check.begin("3, write with room for one page");
        for (int object = 1; object <= 5; object++) {
            Check.due("create", x.create(0, object, false), object);
            for (int chunk = 1; chunk <= 6; chunk++) {
                Check.due("write", x.write(object, chunk, 10 * object + chunk), 0);
            }
        }
        Check.due("create", x.create(0, 6, false), 6);
        Check.due("write", x.write(6, 1, 61), 0);
        Check.due("write", x.write(6, 2, 62), 0);
        Check.due("write", x.write(6, 3, 63), 0);
        Check.due("no room for 2", x.write(6, 4, 64), -6);
        Check.due("size", x.size(6), 3);
        Check.due("room for 1", x.write(6, 3, 633), 0);
        Check.due("read", x.read(6, 3), 633);
        Check.due("no room for 2 still", x.write(6, 6, 66), -6);
        for (int object = 1; object <= 5; object++) {
            for (int chunk = 1; chunk <= 6; chunk++) {
                Check.due("read", x.read(object, chunk), 10 * object + chunk);
            }
        }
        Check.due("RANGE comes before NO_SPACE", x.write(6, 7, 66), -7);
        Check.due("truncate needs room for 1", x.truncate(6, 2), 0);
        Check.due("size", x.size(6), 2);
    }

    private static void promise3HeaderTakesOverItsWord() {
        SpareTagFlash x = begin("3, the header takes over its word");
        Check.due("flip", x.flip(0, 1, 7), true);
        Check.due("write", x.write(2, 1, 1), 0);
        Check.due("flip", x.flip(0, 3, 9), true);
        Check.due("the one bit was put right", x.nameOf(2), 20);
        Check.due("flip", x.flip(0, 3, 10), true);
        Check.due("two bits", x.nameOf(2), UNREADABLE);
        Check.due("write", x.write(2, 2, 2), 0);
        Check.due("two bits stay", x.nameOf(2), UNREADABLE);
        Check.due("no third", x.flip(0, 5, 11), false);
        Check.due("and none back", x.flip(0, 5, 9), false);
        Check.due("truncate", x.truncate(2, 1), 0);
        Check.due("two bits stay", x.nameOf(2), UNREADABLE);
        Check.due("no third", x.flip(0, 6, 11), false);
        Check.due("flip", x.flip(0, 2, 1), true);
        Check.due("flip", x.flip(0, 2, 2), true);
        Check.due("read", x.read(2, 1), UNREADABLE);
        Check.due("write", x.write(2, 1, 5), 0);
        Check.due("a new word is readable", x.read(2, 1), 5);
    }

    private static void promise3OrderOfSteps() {
        int[] sizes = {0, 0, 3, 3};
        for (int n = 0; n < 3; n++) {
            SpareTagFlash x = begin("3, write cut after " + n);
            x.cut(n);
            Check.due("write", x.write(2, 3, 33), -9);
            Check.due("steps()", x.steps(), 2 + n);
            Check.due("free()", x.free(), 46 - Math.min(n, 2));
            Check.due("the old header is not marked yet", x.tags(0, 1), 2);
            Check.due("mount", x.mount(true), 48);
            Check.due("size", x.size(2), sizes[n]);
        }
        SpareTagFlash x = begin("3, write again cut");
        Check.due("write", x.write(2, 1, 5), 0);
        x.cut(1);
        Check.due("write", x.write(2, 1, 6), -9);
        Check.due("the new page is there", x.tags(0, 4), 2 + 8 + 64);
        Check.due("the old page is not marked yet", x.tags(0, 2), 2 + 8);
    }

    private static void promise4Read() {
        SpareTagFlash x = begin("4, read");
        Check.due("write", x.write(2, 2, -1), 0);
        Check.due("write", x.write(2, 4, Integer.MAX_VALUE), 0);
        Check.due("a hole", x.read(2, 1), 0);
        Check.due("read", x.read(2, 2), -1);
        Check.due("a hole", x.read(2, 3), 0);
        Check.due("read", x.read(2, 4), Integer.MAX_VALUE);
        Check.due("chunk 0", x.read(2, 0), REFUSED - 7);
        Check.due("chunk 5", x.read(2, 5), REFUSED - 7);
        Check.due("chunk -1", x.read(2, -1), REFUSED - 7);
        Check.due("chunk MAX", x.read(2, Integer.MAX_VALUE), REFUSED - 7);
        Check.due("a directory", x.read(1, 1), REFUSED - 3);
        Check.due("IS_DIRECTORY comes before RANGE", x.read(1, 0), REFUSED - 3);
        Check.due("the root", x.read(0, 1), REFUSED - 1);
        Check.due("3", x.read(3, 1), REFUSED - 1);
        Check.due("8", x.read(8, 1), REFUSED - 1);
        Check.due("MIN", x.read(Integer.MIN_VALUE, 1), REFUSED - 1);
        Check.due("flip", x.flip(0, 2, 31), true);
        Check.due("one bit", x.read(2, 2), -1);
        Check.due("flip", x.flip(0, 2, 32), true);
        Check.due("two bits", x.read(2, 2), UNREADABLE);
        Check.due("the other page", x.read(2, 4), Integer.MAX_VALUE);
        turnOff(x);
        Check.due("off", x.read(9, 9), REFUSED - 9);
    }

    private static void promise5Truncate() {
        SpareTagFlash x = begin("5, truncate");
        Check.due("write", x.write(2, 6, 66), 0);
        Check.due("write", x.write(2, 2, 22), 0);
        Check.due("write", x.write(2, 1, 11), 0);
        int steps = x.steps();
        Check.due("to its size", x.truncate(2, 6), 0);
        Check.due("nothing done", x.steps(), steps);
        Check.due("into a hole", x.truncate(2, 4), 0);
        Check.due("header, mark, mark", x.steps(), steps + 3);
        Check.due("size", x.size(2), 4);
        Check.due("the header", x.tags(0, 6), 2 + 128 + 4096 * 4);
        Check.due("chunk 6 is marked", x.tags(0, 2), 2 + 48 + 256);
        Check.due("a hole", x.read(2, 4), 0);
        Check.due("read", x.read(2, 2), 22);
        Check.due("to 0", x.truncate(2, 0), 0);
        Check.due("size", x.size(2), 0);
        Check.due("read", x.read(2, 1), REFUSED - 7);
        Check.due("nameOf", x.nameOf(2), 20);
        Check.due("write", x.write(2, 3, 33), 0);
        Check.due("what was cut off is a hole", x.read(2, 1), 0);
        Check.due("the chunk begins with serial 0", x.tags(1, 0), 2 + 24);
    }

    private static void promise5TruncateRefused() {
        SpareTagFlash x = begin("5, truncate refused");
        Check.due("write", x.write(2, 3, 3), 0);
        int steps = x.steps();
        Check.due("4", x.truncate(2, 4), -7);
        Check.due("-1", x.truncate(2, -1), -7);
        Check.due("MAX", x.truncate(2, Integer.MAX_VALUE), -7);
        Check.due("a directory", x.truncate(1, 0), -3);
        Check.due("IS_DIRECTORY comes before RANGE", x.truncate(1, 9), -3);
        Check.due("the root", x.truncate(0, 0), -1);
        Check.due("3", x.truncate(3, 0), -1);
        Check.due("8", x.truncate(8, 0), -1);
        Check.due("-1", x.truncate(-1, 0), -1);
        Check.due("steps()", x.steps(), steps);
        turnOff(x);
        Check.due("off", x.truncate(9, 9), -9);
    }

    private static void promise5OrderOfSteps() {
        for (int n = 0; n < 4; n++) {
            SpareTagFlash x = begin("5, truncate cut after " + n);
            Check.due("write", x.write(2, 2, 22), 0);
            Check.due("write", x.write(2, 1, 11), 0);
            x.cut(n);
            Check.due("truncate", x.truncate(2, 0), -9);
            Check.due("header", x.tags(0, 5), n >= 1 ? 2 + 128 : -2);
            Check.due("old header", x.tags(0, 3), 2 + 64 + 4096 * 2 + (n >= 2 ? 256 : 0));
            Check.due("chunk 1", x.tags(0, 4), 2 + 8 + (n >= 3 ? 256 : 0));
            Check.due("chunk 2", x.tags(0, 2), 2 + 16);
            Check.due("mount", x.mount(true), 48);
            Check.due("size", x.size(2), n == 0 ? 2 : 0);
        }
    }
}
