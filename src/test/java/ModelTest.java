import java.util.ArrayList;
import java.util.List;
import java.util.Random;

/**
 * Random runs of 512 calls, with fixed seeds, answered by the class and by the model. What is
 * asked between them, to find a fault where it arises, is not counted: the class counts none.
 */
public final class ModelTest {
    private static final int RUNS = 800;
    private static final int CALLS = 512;
    private static final int[] ODD = {Integer.MIN_VALUE, -2, -1, 8, 9, 39, 1001, Integer.MAX_VALUE};

    private final Random random;
    private final SpareTagFlash flash = new SpareTagFlash();
    private final FlashModel model = new FlashModel();
    private final List<String> calls = new ArrayList<>();
    /** Some runs never fail, wear or flip, so that they come to be full and stay on. */
    private final int trouble;
    private boolean right = true;

    private ModelTest(int seed) {
        random = new Random(seed);
        trouble = seed % 4;
    }

    public static void main(String[] args) {
        for (int seed = 0; seed < RUNS && Check.allRight(); seed++) {
            Check.begin("seed " + seed);
            new ModelTest(seed).run();
        }
        Check.end();
    }

    private void run() {
        for (int i = 0; i < CALLS && right; i++) {
            call();
            compareChips();
        }
        if (!right) {
            for (String call : calls) {
                System.out.println(call);
            }
        }
    }

    /** Mostly from 0 to the limit, now and then a wrong number. */
    private int number(int limit) {
        return random.nextInt(40) == 0 ? ODD[random.nextInt(ODD.length)] : random.nextInt(limit + 1);
    }

    /** Mostly an object that is there. */
    private int object() {
        int object = number(7);
        for (int i = 0; i < 7 && random.nextInt(20) > 0 && model.parentOf(object) < 0; i++) {
            object = random.nextInt(8);
        }
        return object;
    }

    private int name() {
        return random.nextInt(10) == 0 ? random.nextInt() : random.nextInt(6);
    }

    private void compare(String call, long got, long want) {
        calls.add(call + " -> " + got);
        Check.due(call, got, want);
        right = right && got == want;
    }

    private void compare(String call, boolean got, boolean want) {
        compare(call, got ? 1 : 0, want ? 1 : 0);
    }

    private void call() {
        boolean off = model.size(0) == SpareTagFlash.OFF;
        int kind = random.nextInt(100);
        if (off && trouble % 2 == 1 && kind >= 92) {
            cutSoon();
        } else if (off && kind >= 60 || kind >= 75 && kind < 80) {
            boolean scan = random.nextBoolean();
            compare("mount(" + scan + ")", flash.mount(scan), model.mount(scan));
        } else if (kind < 50) {
            change(random.nextInt(100));
        } else if (kind < 75) {
            ask(random.nextInt(6));
        } else if (kind < 84) {
            compare("checkpoint()", flash.checkpoint(), model.checkpoint());
        } else {
            disturb(random.nextInt(100));
        }
    }

    private void change(int kind) {
        int a = object();
        int b = number(7);
        int name = name();
        if (kind < 25) {
            boolean directory = random.nextInt(3) == 0;
            b = random.nextInt(3) == 0 ? 0 : object();
            compare("create(" + b + ", " + name + ", " + directory + ")",
                    flash.create(b, name, directory), model.create(b, name, directory));
        } else if (kind < 72) {
            compare("write(" + a + ", " + b + ", " + name + ")",
                    flash.write(a, b, name), model.write(a, b, name));
        } else if (kind < 80) {
            compare("truncate(" + a + ", " + b + ")", flash.truncate(a, b), model.truncate(a, b));
        } else if (kind < 94) {
            b = object();
            compare("move(" + a + ", " + b + ", " + name + ")",
                    flash.move(a, b, name), model.move(a, b, name));
        } else {
            compare("remove(" + a + ")", flash.remove(a), model.remove(a));
        }
    }

    private void ask(int kind) {
        int a = object();
        int b = number(7);
        int name = name();
        switch (kind) {
            case 0 -> compare("read(" + a + ", " + b + ")", flash.read(a, b), model.read(a, b));
            case 1 -> compare("find(" + a + ", " + name + ")",
                    flash.find(a, name), model.find(a, name));
            case 2 -> compare("size(" + a + ")", flash.size(a), model.size(a));
            case 3 -> compare("parentOf(" + a + ")", flash.parentOf(a), model.parentOf(a));
            case 4 -> compare("nameOf(" + a + ")", flash.nameOf(a), model.nameOf(a));
            default -> compare("tags(" + a + ", " + b + ")", flash.tags(a, b), model.tags(a, b));
        }
    }

    private void disturb(int kind) {
        int block = number(5);
        int page = number(7);
        if (kind < 40 && trouble % 2 == 1) {
            cutSoon();
        } else if (kind < 44 && trouble > 1) {
            compare("wear(" + block + ")", flash.wear(block), model.wear(block));
        } else if (trouble > 0) {
            int bit = random.nextBoolean() ? random.nextInt(2) : number(38);
            compare("flip(" + block + ", " + page + ", " + bit + ")",
                    flash.flip(block, page, bit), model.flip(block, page, bit));
        }
    }

    private void cutSoon() {
        int n = random.nextInt(8) == 0 ? number(1000) : random.nextInt(12) / (1 + random.nextInt(4));
        calls.add("cut(" + n + ")");
        flash.cut(n);
        model.cut(n);
    }

    private void compareChips() {
        boolean same = flash.free() == model.free() && flash.steps() == model.steps();
        for (int block = -1; block <= 6; block++) {
            same = same && flash.erases(block) == model.erases(block);
            for (int page = -1; page <= 8; page++) {
                same = same && flash.tags(block, page) == model.tags(block, page);
            }
        }
        for (int object = 0; object <= 7; object++) {
            same = same && flash.nameOf(object) == model.nameOf(object);
            for (int chunk = 1; chunk <= 6; chunk++) {
                same = same && flash.read(object, chunk) == model.read(object, chunk);
            }
        }
        if (!same) {
            compare("the chip's being as due after the last call", false, true);
        }
    }
}
