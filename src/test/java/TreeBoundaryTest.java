/** The boundary cases of promises 2 and 6 to 11, and of what 'Terms' says of the tree. */
public final class TreeBoundaryTest extends Boundaries {
    private static final int[] ABSENT = {5, 6, 7};

    public static void main(String[] args) {
        termsTheRoot();
        termsThereWhenItHasALiveHeader();
        promise2ParentNotThere();
        promise2ParentAtTheBounds();
        promise2ParentAFile();
        promise2NameTaken();
        promise2NameFreeAgain();
        promise2UnreadableHasNoName();
        promise2Full();
        promise2LowestThatIsNotThere();
        promise2HeaderWithSizeNought();
        promise6ObjectNotThere();
        promise6ParentNotThere();
        promise6ParentAFile();
        promise6InItself();
        promise6AtAnyDepth();
        promise6NameTaken();
        promise6NameOfAnUnreadableHeader();
        promise6AlsoWhenTheyAreTheOldOnes();
        promise6KeepsTheRest();
        promise7NotThere();
        promise7NotEmpty();
        promise7EmptyAgain();
        promise7MarksWhatIsLive();
        promise7InTheOrderOfChunks();
        promise8ParentNotThere();
        promise8ParentAFile();
        promise8NoSuchName();
        promise8UnreadableHasNoName();
        promise9NotThere();
        promise9OfADirectory();
        promise9OfAFile();
        promise10NotThere();
        promise10AtTheBounds();
        promise11NotThere();
        promise11NoneOneAndTwoBits();
        Check.end();
    }

    private static void termsTheRoot() {
        Run x = smallTree("object 0 is the root, a directory that has no page");
        x.idle(2, size(0));
        x.idle(1, find(0, 10));
        x.idle(NO_OBJECT, parentOf(0));
        x.idle(REFUSED + NO_OBJECT, nameOf(0));
        x.idle(NO_OBJECT, remove(0));
        x.idle(NO_OBJECT, move(0, 1, 1));
        x.idle(NO_OBJECT, write(0, 1, 1));
        x.idle(REFUSED + NO_OBJECT, read(0, 1));
        x.idle(NO_OBJECT, truncate(0, 0));
        Run y = begin("the root of a new object");
        y.idle(NO_OBJECT, remove(0));
        y.idle(0, size(0));
        y.due(48, free());
    }

    private static void termsThereWhenItHasALiveHeader() {
        Run x = oneFile("an object is there when it has a live header");
        x.due(0, size(1));
        x.make(cut(1));
        x.due(0, remove(1));
        x.due(NO_OBJECT, size(1));
        x.make(cut(0));
        x.due(OFF, create(0, 10, false));
        x.due(48, mount(true));
        x.due(NO_OBJECT, size(1));
        x.make(cut(1));
        x.due(1, create(0, 10, false));
        x.due(0, size(1));
    }

    private static void promise2ParentNotThere() {
        Run x = smallTree("2: NO_OBJECT when parent is neither 0 nor there");
        for (int parent : ABSENT) {
            x.idle(NO_OBJECT, create(parent, 1, false));
            x.idle(NO_OBJECT, create(parent, 10, true));
        }
        for (int parent : NEVER_OBJECTS) {
            x.idle(NO_OBJECT, create(parent, 1, false));
        }
        x.due(0, remove(2));
        x.idle(NO_OBJECT, create(2, 1, false));
    }

    private static void promise2ParentAtTheBounds() {
        Run x = smallTree("2: a parent may be 0 or any object that is there");
        x.due(5, create(0, 50, true));
        x.due(6, create(5, 50, true));
        x.due(7, create(6, 50, true));
        x.due(0, remove(4));
        x.due(4, create(7, 50, true));
        x.due(7, parentOf(4));
        x.due(0, remove(2));
        x.due(2, create(4, 50, false));
        x.due(4, parentOf(2));
    }

    private static void promise2ParentAFile() {
        Run x = smallTree("2: NOT_DIRECTORY when parent is a file");
        x.idle(NOT_DIRECTORY, create(3, 1, false));
        x.idle(NOT_DIRECTORY, create(4, 1, true));
        x.due(5, create(2, 1, false));
        x.idle(NOT_DIRECTORY, create(5, 1, false));
    }

    private static void promise2NameTaken() {
        Run x = smallTree("2: EXISTS when an object with that parent has that name");
        x.idle(EXISTS, create(0, 10, true));
        x.idle(EXISTS, create(0, 10, false));
        x.idle(EXISTS, create(0, 40, true));
        x.idle(EXISTS, create(1, 20, false));
        x.idle(EXISTS, create(1, 30, false));
        for (int name : new int[] {9, 11, -10, 20, 30, 0, 10 + 65536}) {
            x.again().due(5, create(0, name, false));
        }
        x.again().due(5, create(2, 10, false));
        x.again().due(5, create(1, 10, false));
        x.again().due(5, create(1, 40, false));
    }

    private static void promise2NameFreeAgain() {
        Run x = smallTree("2: a name is free when no object has it any more");
        x.due(0, move(4, 0, 41));
        x.idle(EXISTS, create(0, 41, false));
        x.due(5, create(0, 40, false));
        x.due(0, remove(5));
        x.due(5, create(0, 40, false));
        x.due(0, move(3, 0, 31));
        x.due(6, create(1, 30, false));
    }

    private static void promise2UnreadableHasNoName() {
        for (int bits = 0; bits <= 2; bits++) {
            Run x = smallTree("2: an unreadable header has no name, bits turned: " + bits);
            for (int bit = 0; bit < bits; bit++) {
                x.due(YES, flip(0, 3, bit));
            }
            if (bits < 2) {
                x.idle(EXISTS, create(0, 40, false));
            } else {
                x.due(5, create(0, 40, false));
                x.idle(EXISTS, create(0, 40, false));
                x.due(5, find(0, 40));
                x.due(3, size(0));
            }
        }
    }

    private static void promise2Full() {
        Run x = begin("2: FULL when all of 1 .. 7 are there");
        for (int object = 1; object <= 6; object++) {
            x.due(object, create(0, object, object % 2 == 0));
        }
        x.due(7, create(0, 7, false));
        x.idle(FULL, create(0, 8, false));
        x.idle(FULL, create(0, 8, true));
        x.idle(FULL, create(2, 8, false));
        x.due(7, size(0));
        x.due(0, remove(7));
        x.due(7, create(0, 8, false));
        x.idle(FULL, create(0, 7, false));
        x.due(0, remove(1));
        x.due(1, create(0, 9, false));
        x.idle(FULL, create(0, 10, false));
    }

    private static void promise2LowestThatIsNotThere() {
        Run x = begin("2: the lowest that is not there is made");
        for (int object = 1; object <= 7; object++) {
            x.due(object, create(0, object, false));
        }
        int[] removed = {5, 3, 7, 1};
        for (int object : removed) {
            x.due(0, remove(object));
        }
        int[] made = {1, 3, 5, 7};
        for (int object : made) {
            x.due(object, create(0, 10 + object, false));
            x.due(10 + object, nameOf(object));
        }
    }

    private static void promise2HeaderWithSizeNought() {
        Run x = oneFile("2: its header, with size 0, is put");
        x.due(0, write(1, 6, 6));
        x.due(0, remove(1));
        x.due(1, create(0, 10, false));
        x.due(0, size(1));
        x.due(headerTags(1, 0, 0, 0), tags(0, 3));
        x.idle(REFUSED + RANGE, read(1, 1));
        x.idle(REFUSED + RANGE, read(1, 6));
        x.due(0, write(1, 6, 66));
        x.due(0, read(1, 5));
    }

    private static void promise6ObjectNotThere() {
        Run x = smallTree("6: NO_OBJECT when object is not one of 1 .. 7 that is there");
        x.idle(NO_OBJECT, move(0, 0, 1));
        x.idle(NO_OBJECT, move(0, 1, 1));
        for (int object : ABSENT) {
            x.idle(NO_OBJECT, move(object, 0, 1));
            x.idle(NO_OBJECT, move(object, object, 1));
        }
        for (int object : NEVER_OBJECTS) {
            x.idle(NO_OBJECT, move(object, 0, 1));
        }
    }

    private static void promise6ParentNotThere() {
        Run x = smallTree("6: NO_OBJECT when parent is neither 0 nor there");
        for (int parent : ABSENT) {
            x.idle(NO_OBJECT, move(3, parent, 1));
        }
        for (int parent : NEVER_OBJECTS) {
            x.idle(NO_OBJECT, move(3, parent, 1));
        }
        x.again().due(0, move(3, 0, 1));
        x.again().due(0, move(3, 2, 1));
        x.due(5, create(0, 5, true));
        x.due(6, create(0, 6, true));
        x.due(7, create(0, 7, true));
        x.due(0, move(3, 7, 1));
        x.due(7, parentOf(3));
    }

    private static void promise6ParentAFile() {
        Run x = smallTree("6: NOT_DIRECTORY when parent is a file");
        x.idle(NOT_DIRECTORY, move(4, 3, 1));
        x.idle(NOT_DIRECTORY, move(4, 4, 1));
        x.idle(NOT_DIRECTORY, move(1, 3, 1));
        x.idle(NOT_DIRECTORY, move(2, 4, 20));
        x.due(0, move(4, 2, 1));
    }

    private static void promise6InItself() {
        Run x = smallTree("6: LOOP when parent is the object or lies in it");
        x.idle(LOOP, move(1, 1, 10));
        x.idle(LOOP, move(1, 1, 99));
        x.idle(LOOP, move(1, 2, 10));
        x.idle(LOOP, move(2, 2, 20));
        x.again().due(0, move(2, 1, 20));
        x.again().due(0, move(2, 0, 20));
        x.due(0, move(2, 0, 20));
        x.idle(LOOP, move(2, 2, 20));
        x.due(0, move(1, 2, 10));
        x.idle(LOOP, move(2, 1, 20));
        x.due(2, parentOf(1));
    }

    private static void promise6AtAnyDepth() {
        Run x = begin("6: at any depth");
        for (int object = 1; object <= 7; object++) {
            x.due(object, create(object - 1, 1, true));
        }
        for (int outer = 1; outer <= 7; outer++) {
            for (int inner = 0; inner <= 7; inner++) {
                if (inner >= outer) {
                    x.idle(LOOP, move(outer, inner, 2));
                } else {
                    x.again().due(0, move(outer, inner, 2));
                }
            }
        }
    }

    private static void promise6NameTaken() {
        Run x = smallTree("6: EXISTS when another object with that parent has that name");
        x.idle(EXISTS, move(4, 0, 10));
        x.idle(EXISTS, move(1, 0, 40));
        x.idle(EXISTS, move(4, 1, 20));
        x.idle(EXISTS, move(4, 1, 30));
        x.idle(EXISTS, move(2, 1, 30));
        x.idle(EXISTS, move(3, 0, 40));
        for (int name : new int[] {9, 11, 20, 30, 39, 40, 41}) {
            Run y = x.again();
            y.due(0, move(4, 0, name));
            y.due(name, nameOf(4));
            y.due(4, find(0, name));
        }
        x.again().due(0, move(4, 1, 10));
        x.again().due(0, move(4, 1, 40));
        x.again().due(0, move(4, 2, 30));
    }

    private static void promise6NameOfAnUnreadableHeader() {
        for (int bits = 0; bits <= 2; bits++) {
            Run x = smallTree("6: beside an unreadable header, bits turned: " + bits);
            for (int bit = 0; bit < bits; bit++) {
                x.due(YES, flip(0, 0, bit));
            }
            if (bits < 2) {
                x.idle(EXISTS, move(4, 0, 10));
            } else {
                x.due(0, move(4, 0, 10));
                x.due(4, find(0, 10));
                x.idle(EXISTS, move(1, 0, 10));
                x.due(0, move(1, 0, 40));
                x.due(40, nameOf(1));
            }
        }
    }

    private static void promise6AlsoWhenTheyAreTheOldOnes() {
        Run x = smallTree("6: the header is put also when parent and name are the old ones");
        int steps = (int) x.make(steps());
        int free = (int) x.make(free());
        x.due(headerTags(4, 0, 0, 0), tags(0, 3));
        x.due(0, move(4, 0, 40));
        x.due(steps + 2, steps());
        x.due(free - 1, free());
        x.due(headerTags(4, 0, 0, 0) + MARKED, tags(0, 3));
        x.due(headerTags(4, 1, 0, 0), tags(1, 0));
    }

    private static void promise6KeepsTheRest() {
        Run x = smallTree("6: the header is put with this parent and name, all else as it was");
        x.due(0, move(3, 2, -1));
        x.due(headerTags(3, 3, 2, 3), tags(1, 0));
        x.due(3, size(3));
        x.due(31, read(3, 1));
        x.due(0, read(3, 2));
        x.due(33, read(3, 3));
        x.due(1, size(1));
        x.due(1, size(2));
        x.due(3, find(2, -1));
        x.due(0, find(1, 30));
        x.due(0, move(2, 0, 2));
        x.due(2 + 64 + DIRECTORY, tags(1, 1));
        x.due(2, parentOf(3));
    }

    private static void promise7NotThere() {
        Run x = smallTree("7: NO_OBJECT when object is not one of 1 .. 7 that is there");
        x.idle(NO_OBJECT, remove(0));
        for (int object : ABSENT) {
            x.idle(NO_OBJECT, remove(object));
        }
        for (int object : NEVER_OBJECTS) {
            x.idle(NO_OBJECT, remove(object));
        }
        x.due(0, remove(4));
        x.idle(NO_OBJECT, remove(4));
        Run y = begin("7: the bounds 1 and 7");
        for (int object = 1; object <= 7; object++) {
            y.due(object, create(0, object, false));
        }
        y.due(0, remove(1));
        y.due(0, remove(7));
        y.due(5, size(0));
    }

    private static void promise7NotEmpty() {
        Run x = smallTree("7: NOT_EMPTY when it is the parent of an object");
        x.idle(NOT_EMPTY, remove(1));
        x.due(0, remove(2));
        x.idle(NOT_EMPTY, remove(1));
        x.due(0, remove(3));
        x.due(0, remove(1));
        x.due(1, size(0));
        Run y = smallTree("7: NOT_EMPTY also when the header of what is in it is unreadable");
        y.due(0, remove(3));
        y.due(YES, flip(0, 1, 0));
        y.due(YES, flip(0, 1, 1));
        y.idle(NOT_EMPTY, remove(1));
    }

    private static void promise7EmptyAgain() {
        Run x = smallTree("7: a directory from which all was moved is empty");
        x.due(0, move(2, 0, 20));
        x.idle(NOT_EMPTY, remove(1));
        x.due(0, move(3, 2, 30));
        x.idle(NOT_EMPTY, remove(2));
        x.due(0, remove(1));
        x.idle(NO_OBJECT, find(1, 20));
    }

    private static void promise7MarksWhatIsLive() {
        for (int chunks = 0; chunks <= 6; chunks++) {
            Run x = oneFile("7: the header is marked, then the live pages of chunks: " + chunks);
            for (int chunk = 1; chunk <= chunks; chunk++) {
                x.due(0, write(1, chunk, chunk));
            }
            int steps = (int) x.make(steps());
            int free = (int) x.make(free());
            x.due(0, remove(1));
            x.due(steps + 1 + chunks, steps());
            x.due(free, free());
            x.due(0, checkpoint());
        }
        Run y = oneFile("7: a hole has no page to mark");
        y.due(0, write(1, 6, 6));
        int steps = (int) y.make(steps());
        y.due(0, remove(1));
        y.due(steps + 2, steps());
    }

    private static void promise7InTheOrderOfChunks() {
        // Pages of block 0: 1 is chunk 3, 2 the header, 3 chunk 1, 4 chunk 2.
        int[] order = {2, 3, 4, 1};
        for (int n = 0; n <= 4; n++) {
            Run x = oneFile("7: the header, then the chunks in their order, cut after " + n);
            x.due(0, write(1, 3, 3));
            x.due(0, write(1, 1, 1));
            x.due(0, write(1, 2, 2));
            x.make(cut(n));
            x.due(n < 4 ? OFF : 0, remove(1));
            for (int i = 0; i < 4; i++) {
                int marked = (int) x.make(tags(0, order[i])) & MARKED;
                Check.due("the mark of page " + order[i], marked, i < n ? MARKED : 0);
            }
        }
    }

    private static void promise8ParentNotThere() {
        Run x = smallTree("8: NO_OBJECT when parent is neither 0 nor there");
        for (int parent : ABSENT) {
            x.idle(NO_OBJECT, find(parent, 10));
        }
        for (int parent : NEVER_OBJECTS) {
            x.idle(NO_OBJECT, find(parent, 10));
        }
        x.due(0, remove(2));
        x.idle(NO_OBJECT, find(2, 10));
    }

    private static void promise8ParentAFile() {
        Run x = smallTree("8: NOT_DIRECTORY when it is a file");
        x.idle(NOT_DIRECTORY, find(3, 10));
        x.idle(NOT_DIRECTORY, find(4, 10));
        x.idle(0, find(2, 10));
    }

    private static void promise8NoSuchName() {
        Run x = smallTree("8: 0 when there is none");
        x.idle(1, find(0, 10));
        x.idle(0, find(0, 9));
        x.idle(0, find(0, 11));
        x.idle(0, find(0, 20));
        x.idle(2, find(1, 20));
        x.idle(3, find(1, 30));
        x.idle(0, find(1, 10));
        x.idle(4, find(0, 40));
        x.idle(0, find(2, 20));
        x.due(5, create(0, 0, false));
        x.idle(5, find(0, 0));
        x.idle(0, find(1, 0));
        x.due(6, create(2, 10, false));
        x.due(7, create(2, MIN, false));
        x.idle(7, find(2, MIN));
        x.idle(6, find(2, 10));
        x.idle(0, find(2, MAX));
    }

    private static void promise8UnreadableHasNoName() {
        Run x = smallTree("8: an object whose header is unreadable has no name");
        x.due(YES, flip(0, 3, 0));
        x.idle(4, find(0, 40));
        x.due(YES, flip(0, 3, 1));
        x.idle(0, find(0, 40));
        x.due(2, size(0));
        x.due(0, move(4, 0, 40));
        x.idle(4, find(0, 40));
    }

    private static void promise9NotThere() {
        Run x = smallTree("9: NO_OBJECT when object is neither 0 nor there");
        for (int object : ABSENT) {
            x.idle(NO_OBJECT, size(object));
        }
        for (int object : NEVER_OBJECTS) {
            x.idle(NO_OBJECT, size(object));
        }
        x.due(0, remove(4));
        x.idle(NO_OBJECT, size(4));
    }

    private static void promise9OfADirectory() {
        Run x = begin("9: for a directory the number of objects whose parent it is");
        x.idle(0, size(0));
        x.due(1, create(0, 1, true));
        x.idle(1, size(0));
        x.idle(0, size(1));
        for (int object = 2; object <= 7; object++) {
            x.due(object, create(1, object, object % 2 == 0));
            x.idle(1, size(0));
            x.idle(object - 1, size(1));
        }
        x.due(0, move(7, 2, 7));
        x.due(5, size(1));
        x.due(1, size(2));
        x.due(YES, flip(0, 7, 0));
        x.due(YES, flip(0, 7, 1));
        x.due(UNREADABLE, nameOf(7));
        x.idle(1, size(2));
        for (int object = 7; object >= 2; object--) {
            x.due(0, remove(object));
        }
        x.due(0, size(1));
        Run y = begin("9: seven objects in the root");
        for (int object = 1; object <= 7; object++) {
            y.due(object, create(0, object, false));
            y.idle(object, size(0));
        }
    }

    private static void promise9OfAFile() {
        Run x = oneFile("9: for a file its size");
        x.idle(0, size(1));
        for (int size = 1; size <= 6; size++) {
            x.due(0, write(1, size, 1));
            x.idle(size, size(1));
        }
        for (int size = 5; size >= 0; size--) {
            x.due(0, truncate(1, size));
            x.idle(size, size(1));
        }
        x.due(0, write(1, 6, 0));
        x.idle(6, size(1));
    }

    private static void promise10NotThere() {
        Run x = smallTree("10: NO_OBJECT when object is not one of 1 .. 7 that is there");
        x.idle(NO_OBJECT, parentOf(0));
        for (int object : ABSENT) {
            x.idle(NO_OBJECT, parentOf(object));
        }
        for (int object : NEVER_OBJECTS) {
            x.idle(NO_OBJECT, parentOf(object));
        }
        x.due(0, remove(4));
        x.idle(NO_OBJECT, parentOf(4));
    }

    private static void promise10AtTheBounds() {
        Run x = begin("10: the parents 0 and 7, of the objects 1 and 7");
        for (int object = 1; object <= 7; object++) {
            x.due(object, create(0, object, true));
            x.idle(0, parentOf(object));
        }
        x.due(0, move(1, 7, 1));
        x.idle(7, parentOf(1));
        x.due(0, move(1, 6, 1));
        x.idle(6, parentOf(1));
        x.due(0, move(7, 1, 1));
        x.idle(1, parentOf(7));
        x.due(YES, flip(1, 1, 0));
        x.due(YES, flip(1, 1, 1));
        x.idle(1, parentOf(7));
    }

    private static void promise11NotThere() {
        Run x = smallTree("11: REFUSED + NO_OBJECT when object is not one of 1 .. 7 that is there");
        x.idle(REFUSED + NO_OBJECT, nameOf(0));
        for (int object : ABSENT) {
            x.idle(REFUSED + NO_OBJECT, nameOf(object));
        }
        for (int object : NEVER_OBJECTS) {
            x.idle(REFUSED + NO_OBJECT, nameOf(object));
        }
        x.due(0, remove(4));
        x.idle(REFUSED + NO_OBJECT, nameOf(4));
    }

    private static void promise11NoneOneAndTwoBits() {
        Run x = begin("11: UNREADABLE when its header is, otherwise its name");
        for (int object = 1; object <= 7; object++) {
            x.due(object, create(0, -object, object % 2 == 0));
        }
        for (int object = 1; object <= 7; object++) {
            x.idle(-object, nameOf(object));
            x.due(YES, flip(0, object - 1, 38));
            x.idle(-object, nameOf(object));
            x.due(YES, flip(0, object - 1, 0));
            x.idle(UNREADABLE, nameOf(object));
        }
    }
}
