/**
 * All that can be told of an object: what it answers now, and what it will answer to calls that
 * bring to light what no answer shows at once (turned bits, worn and touched blocks, the region,
 * the steps until the power fails).
 */
final class Prospect {
    private static final int BLOCKS = 6;
    private static final int PAGES = 8;
    private static final int MOST_CHECKPOINTS = 20;

    private Prospect() {
    }

    static String of(Run run) {
        StringBuilder text = new StringBuilder();
        view(text, run.again());
        mounted(text, run.again(), false);
        mounted(text, run.again(), true);
        for (int block = 0; block < BLOCKS; block++) {
            bits(text, run.again(), block);
        }
        worn(text, run.again());
        untilThePowerFails(text, run.again());
        goingOn(text, run.again());
        return text.toString();
    }

    static void compare(String after, String before, String now) {
        String[] old = before.split("\n");
        String[] young = now.split("\n");
        for (int line = 0; line < old.length; line++) {
            if (line >= young.length || !old[line].equals(young[line])) {
                Check.due("after " + after + " the line " + line + " of the prospect",
                        line < young.length ? young[line] : "", old[line]);
                return;
            }
        }
        Check.due("after " + after + " the lines of the prospect", young.length, old.length);
    }

    private static void ask(StringBuilder text, Run run, Call call) {
        text.append(call.text()).append(" = ").append(run.make(call)).append('\n');
    }

    static void view(StringBuilder text, Run run) {
        ask(text, run, Boundaries.free());
        ask(text, run, Boundaries.steps());
        for (int block = 0; block < BLOCKS; block++) {
            ask(text, run, Boundaries.erases(block));
            for (int page = 0; page < PAGES; page++) {
                ask(text, run, Boundaries.tags(block, page));
            }
        }
        tree(text, run);
    }

    static void tree(StringBuilder text, Run run) {
        ask(text, run, Boundaries.size(0));
        for (int object = 1; object <= 7; object++) {
            ask(text, run, Boundaries.size(object));
            ask(text, run, Boundaries.parentOf(object));
            ask(text, run, Boundaries.nameOf(object));
            for (int chunk = 1; chunk <= 6; chunk++) {
                ask(text, run, Boundaries.read(object, chunk));
            }
        }
    }

    private static void mounted(StringBuilder text, Run run, boolean scan) {
        ask(text, run, Boundaries.mount(scan));
        view(text, run);
    }

    /** Four flips tell how many bits of a page are turned, and whether it is bit 0. */
    private static void bits(StringBuilder text, Run run, int block) {
        for (int page = 0; page < PAGES; page++) {
            for (int bit = 0; bit < 4; bit++) {
                ask(text, run, Boundaries.flip(block, page, bit));
            }
        }
    }

    private static void worn(StringBuilder text, Run run) {
        for (int block = 0; block < BLOCKS; block++) {
            ask(text, run, Boundaries.wear(block));
        }
    }

    private static void untilThePowerFails(StringBuilder text, Run run) {
        for (int i = 0; i < MOST_CHECKPOINTS; i++) {
            ask(text, run, Boundaries.checkpoint());
            ask(text, run, Boundaries.steps());
        }
    }

    private static void goingOn(StringBuilder text, Run run) {
        ask(text, run, Boundaries.mount(false));
        for (int object = 1; object <= 7; object++) {
            ask(text, run, Boundaries.write(object, 1, 9000 + object));
        }
        ask(text, run, Boundaries.create(0, 9100, false));
        ask(text, run, Boundaries.move(2, 0, 9200));
        ask(text, run, Boundaries.truncate(3, 0));
        ask(text, run, Boundaries.remove(4));
        ask(text, run, Boundaries.mount(false));
        view(text, run);
    }
}
