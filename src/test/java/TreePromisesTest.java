/** Promises 1, 2 and 6 to 11: the new object and the tree. */
public final class TreePromisesTest {
    private static final long REFUSED = 8589934592L;
    private static final long UNREADABLE = 4294967296L;

    public static void main(String[] args) {
        promise1NewObject();
        promise2Create();
        promise2CreateRefused();
        promise2UnreadableHasNoName();
        promise2NoSpace();
        promise2NoSpaceForAHeader();
        promise6Move();
        promise6MoveRefused();
        promise6LoopAtAnyDepth();
        promise6MoveKeepsSizeAndKind();
        promise7Remove();
        promise8Find();
        promise9Size();
        promise10ParentOf();
        promise11NameOf();
        Check.end();
    }

    private static SpareTagFlash begin(String name) {
        Check.begin(name);
        return new SpareTagFlash();
    }

    /** Root holds directory 1 (name 10) and file 3 (name 30), 1 holds file 2 (name 20). */
    private static SpareTagFlash smallTree(String name) {
        SpareTagFlash x = begin(name);
        Check.due("create 1", x.create(0, 10, true), 1);
        Check.due("create 2", x.create(1, 20, false), 2);
        Check.due("create 3", x.create(0, 30, false), 3);
        return x;
    }

    private static void turnOff(SpareTagFlash x) {
        x.cut(0);
        Check.due("checkpoint() without power", x.checkpoint(), -9);
    }

    private static void promise1NewObject() {
        SpareTagFlash x = begin("1, a new object");
        for (int block = 0; block < 6; block++) {
            Check.due("erases", x.erases(block), 0);
            for (int page = 0; page < 8; page++) {
                Check.due("tags", x.tags(block, page), -2);
            }
        }
        Check.due("free()", x.free(), 48);
        Check.due("steps()", x.steps(), 0);
        Check.due("size(0)", x.size(0), 0);
        for (int object = 1; object <= 7; object++) {
            Check.due("size", x.size(object), -1);
        }
        for (int block = 0; block < 6; block++) {
            Check.due("wear", x.wear(block), true);
        }
        Check.due("create", x.create(0, 1, false), 1);
        for (int i = 0; i < 30; i++) {
            Check.due("write", x.write(1, 1 + i % 6, i), 0);
        }
        Check.due("mount(false) without a region", new SpareTagFlash().mount(false), 48);
        SpareTagFlash other = new SpareTagFlash();
        Check.due("create", other.create(0, 5, true), 1);
        Check.due("the first object is another", x.find(0, 5), 0);
    }

    private static void promise2Create() {
        SpareTagFlash x = smallTree("2, create");
        Check.due("tags of 1", x.tags(0, 0), 1 + 32768);
        Check.due("tags of 2", x.tags(0, 1), 2 + 512);
        Check.due("tags of 3", x.tags(0, 2), 3);
        Check.due("the same name elsewhere", x.create(1, 10, true), 4);
        Check.due("tags of 4", x.tags(0, 3), 4 + 512 + 32768);
        Check.due("create", x.create(0, Integer.MIN_VALUE, false), 5);
        Check.due("nameOf(5)", x.nameOf(5), Integer.MIN_VALUE);
        Check.due("size(5)", x.size(5), 0);
        Check.due("remove(2)", x.remove(2), 0);
        Check.due("remove(4)", x.remove(4), 0);
        Check.due("the lowest that is not there", x.create(0, 77, false), 2);
        Check.due("its header begins with serial 0", x.tags(0, 5), 2);
        Check.due("then the next", x.create(1, 77, false), 4);
        Check.due("steps()", x.steps(), 9);
    }

    private static void promise2CreateRefused() {
        SpareTagFlash x = smallTree("2, create refused");
        Check.due("parent 4", x.create(4, 1, true), -1);
        Check.due("parent 8", x.create(8, 1, true), -1);
        Check.due("parent -1", x.create(-1, 1, true), -1);
        Check.due("parent MAX", x.create(Integer.MAX_VALUE, 1, true), -1);
        Check.due("parent MIN", x.create(Integer.MIN_VALUE, 1, true), -1);
        Check.due("parent a file", x.create(2, 1, true), -2);
        Check.due("name taken", x.create(0, 10, false), -4);
        Check.due("name taken", x.create(1, 20, true), -4);
        for (int object = 4; object <= 7; object++) {
            Check.due("create", x.create(0, 100 + object, false), object);
        }
        Check.due("full", x.create(0, 1, false), -5);
        Check.due("EXISTS comes before FULL", x.create(0, 107, false), -4);
        Check.due("NOT_DIRECTORY comes before FULL", x.create(3, 107, false), -2);
        Check.due("steps()", x.steps(), 7);
        turnOff(x);
        Check.due("off", x.create(0, 1, false), -9);
        Check.due("OFF comes first", x.create(9, 1, false), -9);
    }

    private static void promise2UnreadableHasNoName() {
        SpareTagFlash x = smallTree("2, create beside an unreadable header");
        Check.due("flip", x.flip(0, 2, 0), true);
        Check.due("one bit does no harm", x.create(0, 30, false), -4);
        Check.due("flip", x.flip(0, 2, 38), true);
        Check.due("create", x.create(0, 30, false), 4);
        Check.due("find", x.find(0, 30), 4);
        Check.due("parentOf(3)", x.parentOf(3), 0);
    }

    /** Fills the chip with live pages until fewer than 9 can be free, whatever is collected. */
    private static void promise2NoSpace() {
        SpareTagFlash x = begin("2, create without room");
        int object = 1;
        for (; object <= 5; object++) {
            Check.due("create", x.create(0, object, false), object);
            Check.due("write", x.write(object, 6, 6), 0);
            for (int chunk = 1; chunk < 6; chunk++) {
                Check.due("write", x.write(object, chunk, chunk), 0);
            }
        }
        // 35 live pages and 5 marked ones: 8 pages are free, and with room made, 13.
        Check.due("free()", x.free(), 8);
        Check.due("create", x.create(0, 6, false), 6);
        for (int chunk = 1; chunk <= 3; chunk++) {
            Check.due("write", x.write(6, chunk, chunk), 0);
        }
        // 39 live pages leave at most 9 free ones.
        Check.due("create", x.create(0, 7, false), 7);
        Check.due("40 live pages leave no room", x.write(1, 1, 1), -6);
        Check.due("remove", x.remove(7), 0);
        Check.due("write", x.write(6, 3, 33), 0);
        Check.due("write for 2", x.write(6, 4, 4), -6);
        Check.due("create for 1", x.create(0, 7, false), 7);
        Check.due("move", x.move(1, 0, 100), -6);
        Check.due("truncate", x.truncate(1, 1), -6);
        Check.due("truncate to the size needs no room", x.truncate(1, 6), 0);
        Check.due("EXISTS comes before NO_SPACE", x.move(1, 0, 2), -4);
        Check.due("RANGE comes before NO_SPACE", x.truncate(1, 7), -7);
        Check.due("remove needs none", x.remove(1), 0);
        Check.due("and now there is", x.create(0, 1, true), 1);
    }

    private static void promise2NoSpaceForAHeader() {
        SpareTagFlash x = begin("2, create without room, and an object not there");
        for (int object = 1; object <= 6; object++) {
            Check.due("create", x.create(0, object, false), object);
            Check.due("write", x.write(object, 6, 6), 0);
            for (int chunk = 1; chunk <= (object == 6 ? 3 : 5); chunk++) {
                Check.due("write", x.write(object, chunk, chunk), 0);
            }
        }
        // 40 live pages: header and six chunks of 1 .. 5, header and four chunks of 6.
        int steps = x.steps();
        Check.due("create", x.create(0, 7, false), -6);
        Check.due("EXISTS comes first", x.create(0, 6, false), -4);
        Check.due("not there", x.size(7), -1);
        Check.due("there is nothing to collect", x.steps(), steps);
        Check.due("truncate is refused too", x.truncate(1, 5), -6);
        Check.due("remove", x.remove(6), 0);
        Check.due("create", x.create(0, 7, false), 6);
    }

    private static void promise6Move() {
        SpareTagFlash x = smallTree("6, move");
        Check.due("move(3, 1, 31)", x.move(3, 1, 31), 0);
        Check.due("parentOf(3)", x.parentOf(3), 1);
        Check.due("nameOf(3)", x.nameOf(3), 31);
        Check.due("find(0, 30)", x.find(0, 30), 0);
        Check.due("the old header", x.tags(0, 2), 3 + 256);
        Check.due("the new header", x.tags(0, 3), 3 + 64 + 512);
        Check.due("to where it is", x.move(3, 1, 31), 0);
        Check.due("is put too", x.tags(0, 4), 3 + 128 + 512);
        Check.due("steps()", x.steps(), 7);
        Check.due("move", x.move(3, 0, 31), 0);
        Check.due("move", x.move(3, 0, 30), 0);
        Check.due("after serial 3 comes 0", x.tags(0, 6), 3);
        Check.due("flip", x.flip(0, 6, 1), true);
        Check.due("flip", x.flip(0, 6, 2), true);
        Check.due("nameOf(3)", x.nameOf(3), UNREADABLE);
        Check.due("move", x.move(3, 0, 30), 0);
        Check.due("a new name is readable", x.nameOf(3), 30);
    }

    private static void promise6MoveRefused() {
        SpareTagFlash x = smallTree("6, move refused");
        Check.due("create", x.create(1, 40, true), 4);
        Check.due("create", x.create(4, 50, true), 5);
        Check.due("no object", x.move(6, 0, 1), -1);
        Check.due("the root", x.move(0, 1, 1), -1);
        Check.due("8", x.move(8, 0, 1), -1);
        Check.due("MIN", x.move(Integer.MIN_VALUE, 0, 1), -1);
        Check.due("no parent", x.move(3, 6, 1), -1);
        Check.due("parent -1", x.move(3, -1, 1), -1);
        Check.due("parent a file", x.move(3, 2, 1), -2);
        Check.due("a file in itself", x.move(3, 3, 1), -2);
        Check.due("in itself", x.move(1, 1, 10), -10);
        Check.due("in its child", x.move(1, 4, 10), -10);
        Check.due("in its grandchild", x.move(1, 5, 10), -10);
        Check.due("LOOP comes before EXISTS", x.move(4, 4, 50), -10);
        Check.due("name taken", x.move(3, 0, 10), -4);
        Check.due("name taken", x.move(3, 1, 40), -4);
        Check.due("steps()", x.steps(), 5);
        Check.due("deeper", x.move(3, 5, 30), 0);
        Check.due("up again", x.move(5, 0, 50), 0);
        Check.due("and the other way round", x.move(1, 5, 10), 0);
        Check.due("parentOf(1)", x.parentOf(1), 5);
        turnOff(x);
        Check.due("off", x.move(9, 0, 1), -9);
    }

    private static void promise6LoopAtAnyDepth() {
        SpareTagFlash x = begin("6, the deepest loop");
        for (int object = 1; object <= 7; object++) {
            Check.due("create", x.create(object - 1, 1, true), object);
        }
        for (int object = 1; object <= 7; object++) {
            Check.due("move", x.move(object, 7, 2), -10);
        }
        Check.due("move", x.move(7, 0, 2), 0);
        Check.due("move", x.move(1, 7, 1), 0);
        Check.due("parentOf", x.parentOf(1), 7);
    }

    private static void promise6MoveKeepsSizeAndKind() {
        SpareTagFlash x = smallTree("6, move keeps size and kind");
        Check.due("write", x.write(3, 5, 55), 0);
        Check.due("move", x.move(3, 1, 7), 0);
        Check.due("size", x.size(3), 5);
        Check.due("read", x.read(3, 5), 55);
        Check.due("tags", x.tags(0, 5), 3 + 128 + 512 + 4096 * 5);
        Check.due("move", x.move(1, 0, 11), 0);
        Check.due("tags", x.tags(0, 6), 1 + 64 + 32768);
        Check.due("find", x.find(1, 7), 3);
    }

    private static void promise7Remove() {
        SpareTagFlash x = smallTree("7, remove");
        Check.due("write", x.write(3, 2, 22), 0);
        Check.due("write", x.write(3, 6, 66), 0);
        Check.due("free()", x.free(), 41);
        int steps = x.steps();
        Check.due("not empty", x.remove(1), -8);
        Check.due("the root", x.remove(0), -1);
        Check.due("4", x.remove(4), -1);
        Check.due("8", x.remove(8), -1);
        Check.due("-1", x.remove(-1), -1);
        Check.due("steps()", x.steps(), steps);
        Check.due("remove(3)", x.remove(3), 0);
        Check.due("header and two chunks", x.steps(), steps + 3);
        Check.due("nothing is freed", x.free(), 41);
        Check.due("read", x.read(3, 2), REFUSED - 1);
        Check.due("remove(3) again", x.remove(3), -1);
        Check.due("remove(2)", x.remove(2), 0);
        Check.due("remove(1)", x.remove(1), 0);
        Check.due("size(0)", x.size(0), 0);
        Check.due("create", x.create(0, 30, false), 1);
        Check.due("size", x.size(1), 0);
        turnOff(x);
        Check.due("off", x.remove(1), -9);
        removeGoesFromHeaderToLastChunk();
    }

    private static void removeGoesFromHeaderToLastChunk() {
        SpareTagFlash x = begin("7, the order of remove");
        Check.due("create", x.create(0, 1, false), 1);
        Check.due("write", x.write(1, 2, 2), 0);
        Check.due("write", x.write(1, 1, 1), 0);
        x.cut(1);
        Check.due("remove", x.remove(1), -9);
        Check.due("the header is marked", x.tags(0, 2), 1 + 64 + 256 + 4096 * 2);
        Check.due("chunk 1 is not", x.tags(0, 3), 1 + 8);
        Check.due("chunk 2 is not", x.tags(0, 1), 1 + 16);
        SpareTagFlash y = begin("7, the order of remove");
        Check.due("create", y.create(0, 1, false), 1);
        Check.due("write", y.write(1, 2, 2), 0);
        Check.due("write", y.write(1, 1, 1), 0);
        y.cut(2);
        Check.due("remove", y.remove(1), -9);
        Check.due("chunk 1 is marked", y.tags(0, 3), 1 + 8 + 256);
        Check.due("chunk 2 is not", y.tags(0, 1), 1 + 16);
    }

    private static void promise8Find() {
        SpareTagFlash x = smallTree("8, find");
        Check.due("find(0, 10)", x.find(0, 10), 1);
        Check.due("find(1, 20)", x.find(1, 20), 2);
        Check.due("find(0, 20)", x.find(0, 20), 0);
        Check.due("find(0, 30)", x.find(0, 30), 3);
        Check.due("no parent", x.find(4, 10), -1);
        Check.due("parent 8", x.find(8, 10), -1);
        Check.due("parent -1", x.find(-1, 10), -1);
        Check.due("a file", x.find(2, 10), -2);
        Check.due("flip", x.flip(0, 2, 3), true);
        Check.due("one bit", x.find(0, 30), 3);
        Check.due("flip", x.flip(0, 2, 4), true);
        Check.due("two bits", x.find(0, 30), 0);
        Check.due("two bits of the word's own zero", x.find(0, 0), 0);
        turnOff(x);
        Check.due("off", x.find(9, 10), -9);
    }

    private static void promise9Size() {
        SpareTagFlash x = smallTree("9, size");
        Check.due("size(0)", x.size(0), 2);
        Check.due("size(1)", x.size(1), 1);
        Check.due("size(2)", x.size(2), 0);
        Check.due("write", x.write(2, 4, 1), 0);
        Check.due("size(2)", x.size(2), 4);
        Check.due("flip", x.flip(0, 2, 3), true);
        Check.due("flip", x.flip(0, 2, 4), true);
        Check.due("an unreadable header counts", x.size(0), 2);
        Check.due("size(4)", x.size(4), -1);
        for (int object = 4; object <= 7; object++) {
            Check.due("create", x.create(1, object, false), object);
        }
        Check.due("size(1)", x.size(1), 5);
        Check.due("size(8)", x.size(8), -1);
        Check.due("size(-1)", x.size(-1), -1);
        turnOff(x);
        Check.due("off", x.size(0), -9);
        Check.due("off", x.size(4), -9);
    }

    private static void promise10ParentOf() {
        SpareTagFlash x = smallTree("10, parentOf");
        Check.due("parentOf(1)", x.parentOf(1), 0);
        Check.due("parentOf(2)", x.parentOf(2), 1);
        Check.due("parentOf(0)", x.parentOf(0), -1);
        Check.due("parentOf(4)", x.parentOf(4), -1);
        Check.due("parentOf(8)", x.parentOf(8), -1);
        Check.due("parentOf(-8)", x.parentOf(-8), -1);
        Check.due("flip", x.flip(0, 1, 3), true);
        Check.due("flip", x.flip(0, 1, 4), true);
        Check.due("the tags are never hit", x.parentOf(2), 1);
        turnOff(x);
        Check.due("off", x.parentOf(0), -9);
    }

    private static void promise11NameOf() {
        SpareTagFlash x = smallTree("11, nameOf");
        Check.due("nameOf(1)", x.nameOf(1), 10);
        Check.due("nameOf(2)", x.nameOf(2), 20);
        Check.due("nameOf(0)", x.nameOf(0), REFUSED - 1);
        Check.due("nameOf(4)", x.nameOf(4), REFUSED - 1);
        Check.due("nameOf(8)", x.nameOf(8), REFUSED - 1);
        Check.due("nameOf(-1)", x.nameOf(-1), REFUSED - 1);
        Check.due("move", x.move(2, 1, -1), 0);
        Check.due("nameOf(2)", x.nameOf(2), -1);
        Check.due("flip", x.flip(0, 3, 37), true);
        Check.due("one bit", x.nameOf(2), -1);
        Check.due("flip", x.flip(0, 3, 37), true);
        Check.due("flip", x.flip(0, 3, 1), true);
        Check.due("flip", x.flip(0, 3, 0), true);
        Check.due("two bits", x.nameOf(2), UNREADABLE);
        turnOff(x);
        Check.due("off", x.nameOf(2), REFUSED - 9);
        Check.due("off", x.nameOf(0), REFUSED - 9);
    }
}
