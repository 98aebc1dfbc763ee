/** The document's calls and answers, and chips in known states, for the tests of boundary cases. */
abstract class Boundaries {
    static final int MIN = Integer.MIN_VALUE;
    static final int MAX = Integer.MAX_VALUE;

    static final int NO_OBJECT = -1;
    static final int NOT_DIRECTORY = -2;
    static final int IS_DIRECTORY = -3;
    static final int EXISTS = -4;
    static final int FULL = -5;
    static final int NO_SPACE = -6;
    static final int RANGE = -7;
    static final int NOT_EMPTY = -8;
    static final int OFF = -9;
    static final int LOOP = -10;
    static final long UNREADABLE = 4294967296L;
    static final long REFUSED = 8589934592L;

    static final int YES = 1;
    static final int NO = 0;
    static final int UNPROGRAMMED = -2;

    static final int MARKED = 256;
    static final int DIRECTORY = 32768;

    /** Never the number of an object, also when it is cut down to a few bits. */
    static final int[] NEVER_OBJECTS = {MIN, MIN + 1, -8, -7, -1, 8, 9, 10, 16, 64 + 1, 256 + 1, MAX};

    static Call create(int parent, int name, boolean directory) {
        return new Call("create(" + parent + ", " + name + ", " + directory + ")",
                x -> x.create(parent, name, directory));
    }

    static Call write(int object, int chunk, int value) {
        return new Call("write(" + object + ", " + chunk + ", " + value + ")",
                x -> x.write(object, chunk, value));
    }

    static Call read(int object, int chunk) {
        return new Call("read(" + object + ", " + chunk + ")", x -> x.read(object, chunk));
    }

    static Call truncate(int object, int size) {
        return new Call("truncate(" + object + ", " + size + ")", x -> x.truncate(object, size));
    }

    static Call move(int object, int parent, int name) {
        return new Call("move(" + object + ", " + parent + ", " + name + ")",
                x -> x.move(object, parent, name));
    }

    static Call remove(int object) {
        return new Call("remove(" + object + ")", x -> x.remove(object));
    }

    static Call find(int parent, int name) {
        return new Call("find(" + parent + ", " + name + ")", x -> x.find(parent, name));
    }

    static Call size(int object) {
        return new Call("size(" + object + ")", x -> x.size(object));
    }

    static Call parentOf(int object) {
        return new Call("parentOf(" + object + ")", x -> x.parentOf(object));
    }

    static Call nameOf(int object) {
        return new Call("nameOf(" + object + ")", x -> x.nameOf(object));
    }

    static Call checkpoint() {
        return new Call("checkpoint()", x -> x.checkpoint());
    }

    static Call mount(boolean scan) {
        return new Call("mount(" + scan + ")", x -> x.mount(scan));
    }

    /** cut() answers nothing: 0 stands for that. */
    static Call cut(int n) {
        return new Call("cut(" + n + ")", x -> {
            x.cut(n);
            return 0;
        });
    }

    static Call flip(int block, int page, int bit) {
        return new Call("flip(" + block + ", " + page + ", " + bit + ")",
                x -> x.flip(block, page, bit) ? YES : NO);
    }

    static Call wear(int block) {
        return new Call("wear(" + block + ")", x -> x.wear(block) ? YES : NO);
    }

    static Call tags(int block, int page) {
        return new Call("tags(" + block + ", " + page + ")", x -> x.tags(block, page));
    }

    static Call free() {
        return new Call("free()", x -> x.free());
    }

    static Call erases(int block) {
        return new Call("erases(" + block + ")", x -> x.erases(block));
    }

    static Call steps() {
        return new Call("steps()", x -> x.steps());
    }

    static Run begin(String name) {
        Check.begin(name);
        return new Run();
    }

    /** The tags of a live page that is no header. */
    static int chunkTags(int object, int chunk, int serial) {
        return object + 8 * chunk + 64 * serial;
    }

    /** The tags of a live header of a file. */
    static int headerTags(int object, int serial, int parent, int size) {
        return object + 64 * serial + 512 * parent + 4096 * size;
    }

    static void turnOff(Run x) {
        x.make(cut(0));
        x.due(OFF, checkpoint());
    }

    /** Page 0 of block 0 holds the header of file 1, named 10, in the root. */
    static Run oneFile(String name) {
        Run x = begin(name);
        x.due(1, create(0, 10, false));
        return x;
    }

    /**
     * Directory 1 (named 10) in the root, directory 2 (20) and file 3 (30, of size 3 with a hole
     * as chunk 2) in 1, file 4 (40, of size 0) in the root; 5, 6 and 7 are not there.
     */
    static Run smallTree(String name) {
        Run x = begin(name);
        x.due(1, create(0, 10, true));
        x.due(2, create(1, 20, true));
        x.due(3, create(1, 30, false));
        x.due(4, create(0, 40, false));
        x.due(0, write(3, 1, 31));
        x.due(0, write(3, 3, 33));
        return x;
    }

    /**
     * Files 1, 2, .. in the root, named as their numbers, each of size 6: as many as are needed
     * for so many live pages, the last one with holes.
     */
    static void fillWithFiles(Run x, int first, int live) {
        int left = live;
        for (int object = first; left > 0; object++) {
            x.due(object, create(0, object, false));
            x.due(0, write(object, 6, 6));
            left -= 2;
            for (int chunk = 1; chunk <= 5 && left > 0; chunk++) {
                x.due(0, write(object, chunk, chunk));
                left--;
            }
        }
    }

    /** 40 live pages, all that 6 blocks can ever hold, and 8 free ones: no room for anything. */
    static Run sixFilesWithoutRoom(String name) {
        Run x = begin(name);
        fillWithFiles(x, 1, 40);
        x.due(8, free());
        x.due(NO_OBJECT, size(7));
        return x;
    }

    /** The same with all 7 objects: directory 1 (named 1) in the root and files 2 .. 7. */
    static Run allObjectsWithoutRoom(String name) {
        Run x = begin(name);
        x.due(1, create(0, 1, true));
        fillWithFiles(x, 2, 39);
        x.due(8, free());
        x.due(7, size(0));
        return x;
    }

    /**
     * File 1 (named 10) of size 1, its chunk put again and again until so many pages are free:
     * its header is page 2 of block 0 and its chunk the page that was programmed last.
     */
    static Run writtenUntilFree(String name, int free) {
        Run x = oneFile(name);
        for (int i = 48 - 3; i >= free; i--) {
            x.due(0, write(1, 1, i));
        }
        x.due(free, free());
        return x;
    }

    /** File 1, its header put 40 times: blocks 0 .. 4 are full, and only the last page is live. */
    static Run oneLivePageInBlockFour(String name) {
        Run x = oneFile(name);
        for (int i = 1; i < 40; i++) {
            x.due(0, move(1, 0, i));
        }
        x.due(8, free());
        return x;
    }

    /** Files 1 .. 5, each header put 8 times: the last page of each block 0 .. 4 is live. */
    static Run oneHeaderInEachBlock(String name) {
        Run x = begin(name);
        for (int file = 1; file <= 5; file++) {
            putHeader(x, file, 8);
        }
        x.due(8, free());
        return x;
    }

    /** Makes a file and moves it, so that its header is put so many times. */
    static void putHeader(Run x, int file, int times) {
        x.due(file, create(0, 100 * file, false));
        for (int i = 1; i < times; i++) {
            x.due(0, move(file, 0, 100 * file + i));
        }
    }

    /**
     * File 1 with chunks 1 .. 6, all in block 0 but for its first header, which is marked; the
     * blocks 1 .. 4 are full of the headers of file 2, of which the last page is live.
     */
    static Run sevenLivePagesInBlockNought(String name) {
        Run x = begin(name);
        fillWithFiles(x, 1, 7);
        putHeader(x, 2, 32);
        x.due(8, free());
        return x;
    }
}
