import java.util.ArrayList;
import java.util.List;

/**
 * The power fails at every single step of a long run, and the tree that is found again is that
 * before the call or that after it, with or without the region.
 */
public final class PowerCutTest {
    private static final int CALLS = 170;

    public static void main(String[] args) {
        for (int wornBlock = -1; wornBlock <= 2; wornBlock++) {
            List<String> trees = treesOfWholeRun(wornBlock);
            for (int call = 0; call < CALLS; call++) {
                cutAtEveryStepOf(call, wornBlock, trees);
            }
        }
        Check.end();
    }

    private static SpareTagFlash begin(int wornBlock) {
        SpareTagFlash x = new SpareTagFlash();
        x.wear(wornBlock);
        return x;
    }

    /** A run that makes, fills, shortens, moves and removes, and collects again and again. */
    private static int call(SpareTagFlash x, int i) {
        int object = 1 + i % 4;
        switch (i % 17) {
            case 0:
                return x.create(0, 100 + i, true);
            case 1:
            case 2:
                return x.create(i % 3, 200 + i, false);
            case 6:
                return x.truncate(object, i % 3);
            case 9:
                return x.move(object, (i + 1) % 3, 300 + i);
            case 12:
                return x.checkpoint();
            case 15:
                return x.remove(1 + i % 5);
            default:
                return x.write(1 + i % 6, 1 + i % 5, 1000 + i);
        }
    }

    private static List<String> treesOfWholeRun(int wornBlock) {
        SpareTagFlash x = begin(wornBlock);
        List<String> trees = new ArrayList<>();
        trees.add(tree(x));
        for (int i = 0; i < CALLS; i++) {
            call(x, i);
            trees.add(tree(x));
        }
        int erased = 0;
        for (int block = 0; block < 6; block++) {
            erased += x.erases(block);
        }
        Check.begin("worn " + wornBlock);
        Check.due("blocks were collected in the run", erased > 6, true);
        return trees;
    }

    private static void cutAtEveryStepOf(int last, int wornBlock, List<String> trees) {
        boolean failed = true;
        for (int n = 0; failed && n < 100; n++) {
            SpareTagFlash x = begin(wornBlock);
            for (int i = 0; i < last; i++) {
                call(x, i);
            }
            Check.begin("worn " + wornBlock + ", call " + last + " cut after " + n);
            int before = x.steps();
            x.cut(n);
            failed = call(x, last) == SpareTagFlash.OFF;
            if (failed) {
                Check.due("steps done", x.steps() - before, n);
                Check.due("off", x.size(0), SpareTagFlash.OFF);
                mountInTwoGoes(x, n % 2 == 0, n / 2 % 3);
                String tree = tree(x);
                if (!tree.equals(trees.get(last))) {
                    Check.due("the tree", tree, trees.get(last + 1));
                }
                checkNothingIsStale(x);
            }
        }
    }

    /** The power fails once more while mounting, if there is so much to do. */
    private static void mountInTwoGoes(SpareTagFlash x, boolean scan, int n) {
        x.cut(n);
        if (x.mount(scan) == SpareTagFlash.OFF) {
            Check.due("on at last", x.mount(!scan) > 0, true);
        }
        x.cut(-1);
    }

    private static void checkNothingIsStale(SpareTagFlash x) {
        int steps = x.steps();
        Check.due("mount", x.mount(true) > 0, true);
        Check.due("nothing more to mark", x.steps(), steps);
    }

    private static String tree(SpareTagFlash x) {
        StringBuilder text = new StringBuilder();
        for (int object = 1; object <= 7; object++) {
            text.append(object).append(": in ").append(x.parentOf(object));
            text.append(", name ").append(x.nameOf(object));
            text.append(", size ").append(x.size(object)).append(", chunks");
            for (int chunk = 1; chunk <= 6; chunk++) {
                text.append(' ').append(x.read(object, chunk));
            }
            text.append('\n');
        }
        return text.toString();
    }
}
