/**
 * 'Refusals are tested in the order in which a method names them': calls for which several
 * refusals hold at once, on a chip without room and with all objects there.
 */
public final class OrderBoundaryTest extends Boundaries {
    private record Refusal(long want, Call call) {
    }

    /** Of the chip that {@link #crowded} makes. */
    private static final int DIR = 1;
    private static final int INNER = 2;
    private static final int FILE = 3;
    private static final int NOBODY = 8;
    private static final int TAKEN = 4;
    private static final int NEW = 999;

    private static final Refusal[] REFUSALS = {
        // create: OFF, NO_OBJECT, NOT_DIRECTORY, EXISTS, FULL, NO_SPACE
        new Refusal(NO_OBJECT, create(NOBODY, TAKEN, false)),
        new Refusal(NO_OBJECT, create(-1, NEW, true)),
        new Refusal(NOT_DIRECTORY, create(FILE, TAKEN, false)),
        new Refusal(NOT_DIRECTORY, create(FILE, NEW, true)),
        new Refusal(EXISTS, create(0, TAKEN, false)),
        new Refusal(EXISTS, create(DIR, 20, true)),
        new Refusal(FULL, create(0, NEW, false)),
        new Refusal(FULL, create(INNER, TAKEN, true)),
        // write: OFF, NO_OBJECT, IS_DIRECTORY, RANGE, NO_SPACE
        new Refusal(NO_OBJECT, write(NOBODY, 0, 1)),
        new Refusal(NO_OBJECT, write(0, 7, 1)),
        new Refusal(NO_OBJECT, write(0, 1, 1)),
        new Refusal(IS_DIRECTORY, write(DIR, 0, 1)),
        new Refusal(IS_DIRECTORY, write(INNER, 7, 1)),
        new Refusal(IS_DIRECTORY, write(DIR, 1, 1)),
        new Refusal(RANGE, write(FILE, 0, 1)),
        new Refusal(RANGE, write(FILE, 7, 1)),
        // read: OFF, NO_OBJECT, IS_DIRECTORY, RANGE
        new Refusal(REFUSED + NO_OBJECT, read(NOBODY, 0)),
        new Refusal(REFUSED + NO_OBJECT, read(0, 7)),
        new Refusal(REFUSED + IS_DIRECTORY, read(DIR, 0)),
        new Refusal(REFUSED + IS_DIRECTORY, read(INNER, 1)),
        new Refusal(REFUSED + RANGE, read(FILE, 7)),
        new Refusal(REFUSED + RANGE, read(FILE, 0)),
        // truncate: OFF, NO_OBJECT, IS_DIRECTORY, RANGE, 0, NO_SPACE
        new Refusal(NO_OBJECT, truncate(NOBODY, -1)),
        new Refusal(NO_OBJECT, truncate(0, 7)),
        new Refusal(NO_OBJECT, truncate(0, 0)),
        new Refusal(IS_DIRECTORY, truncate(DIR, -1)),
        new Refusal(IS_DIRECTORY, truncate(DIR, 0)),
        new Refusal(IS_DIRECTORY, truncate(INNER, 7)),
        new Refusal(RANGE, truncate(FILE, -1)),
        new Refusal(RANGE, truncate(FILE, 7)),
        new Refusal(0, truncate(FILE, 6)),
        // move: OFF, NO_OBJECT, NOT_DIRECTORY, LOOP, EXISTS, NO_SPACE
        new Refusal(NO_OBJECT, move(NOBODY, FILE, NEW)),
        new Refusal(NO_OBJECT, move(NOBODY, 0, TAKEN)),
        new Refusal(NO_OBJECT, move(NOBODY, NOBODY, TAKEN)),
        new Refusal(NO_OBJECT, move(0, 0, TAKEN)),
        new Refusal(NO_OBJECT, move(0, FILE, NEW)),
        new Refusal(NO_OBJECT, move(FILE, NOBODY, TAKEN)),
        new Refusal(NO_OBJECT, move(DIR, -1, NEW)),
        new Refusal(NOT_DIRECTORY, move(FILE, FILE, TAKEN)),
        new Refusal(NOT_DIRECTORY, move(DIR, FILE, NEW)),
        new Refusal(LOOP, move(DIR, DIR, 20)),
        new Refusal(LOOP, move(DIR, DIR, NEW)),
        new Refusal(LOOP, move(DIR, INNER, NEW)),
        new Refusal(LOOP, move(INNER, INNER, NEW)),
        new Refusal(EXISTS, move(DIR, 0, TAKEN)),
        new Refusal(EXISTS, move(FILE, DIR, 20)),
        // remove: OFF, NO_OBJECT, NOT_EMPTY
        new Refusal(NO_OBJECT, remove(0)),
        new Refusal(NO_OBJECT, remove(NOBODY)),
        new Refusal(NOT_EMPTY, remove(DIR)),
        // find, size, parentOf, nameOf: OFF, NO_OBJECT, NOT_DIRECTORY
        new Refusal(NO_OBJECT, find(NOBODY, TAKEN)),
        new Refusal(NOT_DIRECTORY, find(FILE, TAKEN)),
        new Refusal(NO_OBJECT, size(NOBODY)),
        new Refusal(NO_OBJECT, parentOf(0)),
        new Refusal(NO_OBJECT, parentOf(NOBODY)),
        new Refusal(REFUSED + NO_OBJECT, nameOf(0)),
        new Refusal(REFUSED + NO_OBJECT, nameOf(NOBODY)),
    };

    private static final Refusal[] WITHOUT_ROOM = {
        new Refusal(NO_SPACE, write(FILE, 1, 1)),
        new Refusal(NO_SPACE, write(FILE, 6, 1)),
        new Refusal(NO_SPACE, truncate(FILE, 5)),
        new Refusal(NO_SPACE, truncate(FILE, 0)),
        new Refusal(NO_SPACE, move(FILE, 0, NEW)),
        new Refusal(NO_SPACE, move(FILE, 0, 3)),
        new Refusal(NO_SPACE, move(INNER, 0, NEW)),
        new Refusal(NO_SPACE, move(DIR, 0, 10)),
    };

    public static void main(String[] args) {
        noRoomAndNothingToCollect();
        noRoomUntilABlockIsCollected();
        offComesFirst();
        notFullAndWithoutRoom();
        Check.end();
    }

    /** Directory 1 (named 10), in it directory 2 (20); files from 3 on, named as their numbers. */
    private static void fill(Run x, int live) {
        x.due(1, create(0, 10, true));
        x.due(2, create(1, 20, true));
        fillWithFiles(x, 3, live - 2);
    }

    /**
     * Block 4 had 5 live pages, fewer than the others, and became BAD when these were put into
     * block 5: the 3 free pages there are too few to collect any other block.
     */
    private static Run crowdedWithoutRoom(String name) {
        Run x = begin(name);
        x.due(YES, wear(4));
        fill(x, 32);
        x.due(11, free());
        x.due(0, move(3, 0, 3), 3);
        x.due(NO_SPACE, move(3, 0, 3));
        x.due(1, erases(4));
        x.due(3, free());
        x.due(6, size(7));
        return x;
    }

    private static void check(Run x, Refusal[] refusals) {
        for (Refusal refusal : refusals) {
            x.idle(refusal.want(), refusal.call());
        }
    }

    private static void noRoomAndNothingToCollect() {
        Run x = crowdedWithoutRoom("without room");
        check(x, REFUSALS);
        check(x, WITHOUT_ROOM);
    }

    /** 37 live pages of 40 that are programmed: what is refused for other reasons collects none. */
    private static void noRoomUntilABlockIsCollected() {
        Run x = begin("without room until a block is collected");
        fill(x, 37);
        x.due(8, free());
        check(x, REFUSALS);
        int steps = (int) x.make(steps());
        for (Refusal refusal : WITHOUT_ROOM) {
            Run y = x.again();
            y.due(0, refusal.call());
            Check.due("blocks were collected", y.make(steps()) > steps + 14, true);
        }
    }

    private static void offComesFirst() {
        Run x = crowdedWithoutRoom("off");
        turnOff(x);
        for (Refusal[] refusals : new Refusal[][] {REFUSALS, WITHOUT_ROOM}) {
            for (Refusal refusal : refusals) {
                boolean added = refusal.want() > UNREADABLE;
                x.idle(added ? REFUSED + OFF : OFF, refusal.call());
            }
        }
        x.idle(OFF, checkpoint());
    }

    private static void notFullAndWithoutRoom() {
        Run x = sixFilesWithoutRoom("without room, and an object not there");
        x.idle(NO_OBJECT, create(7, 1, false));
        x.idle(NOT_DIRECTORY, create(1, 1, false));
        x.idle(EXISTS, create(0, 1, false));
        x.idle(NO_SPACE, create(0, NEW, false));
        x.idle(NO_OBJECT, write(7, 0, 1));
        x.idle(NO_OBJECT, truncate(7, 7));
        x.idle(NO_OBJECT, move(7, 1, 1));
        x.idle(NO_OBJECT, move(1, 7, 2));
        x.idle(NOT_DIRECTORY, move(1, 1, 2));
        x.idle(EXISTS, move(1, 0, 2));
        x.idle(NO_SPACE, move(1, 0, NEW));
        x.due(0, remove(6));
        x.due(6, create(0, NEW, false));
    }
}
