import java.util.ArrayList;
import java.util.LinkedHashSet;
import java.util.List;
import java.util.Set;
import java.util.TreeSet;

/**
 * The document once more, in other words than the class: pages are objects, the power's
 * failing is an exception, and the region really bears the places of the live pages.
 */
final class FlashModel {
    private static final class PowerFailed extends RuntimeException {
        private static final long serialVersionUID = 1L;

        PowerFailed() {
            super(null, null, false, false);
        }
    }

    private static final class Page {
        int block;
        int object;
        int chunk;
        int serial;
        int parent;
        int size;
        boolean directory;
        boolean marked;
        int word;
        Set<Integer> turned = new TreeSet<>();

        boolean unreadable() {
            return turned.size() == 2;
        }
    }

    private static final class Block {
        final List<Page> pages = new ArrayList<>();
        boolean bad;
        boolean worn;
        boolean touched;
        int erases;

        List<Page> live() {
            List<Page> live = new ArrayList<>();
            for (Page page : pages) {
                if (!page.marked) {
                    live.add(page);
                }
            }
            return live;
        }
    }

    private final List<Block> blocks = new ArrayList<>();
    private final List<Page> region = new ArrayList<>();
    private boolean valid = false;
    private boolean on = true;
    private int steps = 0;
    private int cut = -1;

    FlashModel() {
        for (int i = 0; i < 6; i++) {
            blocks.add(new Block());
        }
    }

    private void step() {
        if (cut == 0) {
            cut = -1;
            on = false;
            throw new PowerFailed();
        }
        cut = cut < 0 ? -1 : cut - 1;
        steps++;
    }

    private void program(Page page) {
        step();
        int target = -1;
        for (int b = 5; b >= 0; b--) {
            int count = blocks.get(b).pages.size();
            if (!blocks.get(b).bad && count > 0 && count < 8) {
                target = b;
            }
        }
        for (int b = 0; b < 6 && target < 0; b++) {
            if (!blocks.get(b).bad && blocks.get(b).pages.isEmpty()) {
                target = b;
            }
        }
        page.block = target;
        blocks.get(target).pages.add(page);
        blocks.get(target).touched = true;
    }

    private void mark(Page page) {
        step();
        page.marked = true;
        blocks.get(page.block).touched = true;
    }

    private void erase(Block block) {
        step();
        block.touched = true;
        if (block.worn) {
            block.bad = true;
        } else {
            block.pages.clear();
            block.erases++;
        }
    }

    private Page live(int object, int chunk) {
        Page found = null;
        for (Block block : blocks) {
            for (Page page : block.live()) {
                if (page.object == object && page.chunk == chunk) {
                    if (found != null) {
                        throw new IllegalStateException("two live pages while the system is on");
                    }
                    found = page;
                }
            }
        }
        return found;
    }

    private void put(Page page) {
        Page before = live(page.object, page.chunk);
        page.serial = before == null ? 0 : (before.serial + 1) % 4;
        program(page);
        if (before != null) {
            mark(before);
        }
    }

    private static Page page(int object, int chunk, int word) {
        Page page = new Page();
        page.object = object;
        page.chunk = chunk;
        page.word = word;
        return page;
    }

    private static Page header(int object, int name, int parent, int size, boolean directory) {
        Page page = page(object, 0, name);
        page.parent = parent;
        page.size = size;
        page.directory = directory;
        return page;
    }

    private static Page again(Page old) {
        Page page = header(old.object, old.word, old.parent, old.size, old.directory);
        page.chunk = old.chunk;
        if (old.turned.size() == 2) {
            page.turned.addAll(old.turned);
        }
        return page;
    }

    private boolean room(int k) {
        while (free() < 8 + k) {
            Block chosen = null;
            for (Block block : blocks) {
                int live = block.live().size();
                boolean can = !block.bad && block.pages.size() == 8 && live < 8 && live <= free();
                if (can && (chosen == null || live < chosen.live().size())) {
                    chosen = block;
                }
            }
            if (chosen == null) {
                return false;
            }
            for (Page page : chosen.live()) {
                put(again(page));
            }
            erase(chosen);
        }
        return true;
    }

    private boolean there(int object) {
        return object >= 1 && object <= 7 && live(object, 0) != null;
    }

    private boolean directory(int object) {
        return object == 0 || live(object, 0).directory;
    }

    private List<Integer> children(int parent) {
        List<Integer> children = new ArrayList<>();
        for (int o = 1; o <= 7; o++) {
            if (there(o) && live(o, 0).parent == parent) {
                children.add(o);
            }
        }
        return children;
    }

    private int named(int parent, int name) {
        for (int o : children(parent)) {
            if (!live(o, 0).unreadable() && live(o, 0).word == name) {
                return o;
            }
        }
        return 0;
    }

    int create(int parent, int name, boolean directory) {
        int found = find(parent, name);
        if (found != 0) {
            return found < 0 ? found : -4;
        }
        int object = 1;
        while (there(object)) {
            object++;
        }
        if (object == 8) {
            return -5;
        }
        try {
            if (!room(1)) {
                return -6;
            }
            put(header(object, name, parent, 0, directory));
            return object;
        } catch (PowerFailed failed) {
            return -9;
        }
    }

    private int fileCode(int object) {
        if (!on) {
            return -9;
        }
        if (!there(object)) {
            return -1;
        }
        return directory(object) ? -3 : 0;
    }

    int write(int object, int chunk, int value) {
        if (fileCode(object) != 0) {
            return fileCode(object);
        }
        if (chunk < 1 || chunk > 6) {
            return -7;
        }
        boolean grows = chunk > live(object, 0).size;
        try {
            if (!room(grows ? 2 : 1)) {
                return -6;
            }
            put(page(object, chunk, value));
            if (grows) {
                Page header = again(live(object, 0));
                header.size = chunk;
                put(header);
            }
            return 0;
        } catch (PowerFailed failed) {
            return -9;
        }
    }

    long read(int object, int chunk) {
        if (fileCode(object) != 0) {
            return 8589934592L + fileCode(object);
        }
        if (chunk < 1 || chunk > live(object, 0).size) {
            return 8589934592L - 7;
        }
        Page page = live(object, chunk);
        if (page == null) {
            return 0;
        }
        return page.unreadable() ? 4294967296L : page.word;
    }

    int truncate(int object, int size) {
        if (fileCode(object) != 0) {
            return fileCode(object);
        }
        int old = live(object, 0).size;
        if (size < 0 || size > old) {
            return -7;
        }
        if (size == old) {
            return 0;
        }
        try {
            if (!room(1)) {
                return -6;
            }
            Page header = again(live(object, 0));
            header.size = size;
            put(header);
            for (int chunk = size + 1; chunk <= 6; chunk++) {
                if (live(object, chunk) != null) {
                    mark(live(object, chunk));
                }
            }
            return 0;
        } catch (PowerFailed failed) {
            return -9;
        }
    }

    int move(int object, int parent, int name) {
        if (!on) {
            return -9;
        }
        if (!there(object) || (parent != 0 && !there(parent))) {
            return -1;
        }
        if (!directory(parent)) {
            return -2;
        }
        for (int p = parent; p != 0; p = live(p, 0).parent) {
            if (p == object) {
                return -10;
            }
        }
        int other = named(parent, name);
        if (other != 0 && other != object) {
            return -4;
        }
        try {
            if (!room(1)) {
                return -6;
            }
            Page old = live(object, 0);
            put(header(object, name, parent, old.size, old.directory));
            return 0;
        } catch (PowerFailed failed) {
            return -9;
        }
    }

    int remove(int object) {
        if (!on) {
            return -9;
        }
        if (!there(object)) {
            return -1;
        }
        if (!children(object).isEmpty()) {
            return -8;
        }
        try {
            for (int chunk = 0; chunk <= 6; chunk++) {
                if (live(object, chunk) != null) {
                    mark(live(object, chunk));
                }
            }
            return 0;
        } catch (PowerFailed failed) {
            return -9;
        }
    }

    int find(int parent, int name) {
        if (!on) {
            return -9;
        }
        if (parent != 0 && !there(parent)) {
            return -1;
        }
        return directory(parent) ? named(parent, name) : -2;
    }

    int size(int object) {
        if (!on) {
            return -9;
        }
        if (object != 0 && !there(object)) {
            return -1;
        }
        return directory(object) ? children(object).size() : live(object, 0).size;
    }

    int parentOf(int object) {
        if (!on) {
            return -9;
        }
        return there(object) ? live(object, 0).parent : -1;
    }

    long nameOf(int object) {
        if (!on || !there(object)) {
            return 8589934592L + (on ? -1 : -9);
        }
        return live(object, 0).unreadable() ? 4294967296L : live(object, 0).word;
    }

    int checkpoint() {
        if (!on) {
            return -9;
        }
        try {
            step();
            valid = false;
            step();
        } catch (PowerFailed failed) {
            return -9;
        }
        region.clear();
        for (Block block : blocks) {
            region.addAll(block.live());
            block.touched = false;
        }
        valid = true;
        return region.size();
    }

    int mount(boolean scan) {
        on = false;
        boolean useRegion = valid && !scan;
        int read = useRegion ? 1 : 0;
        Set<Page> known = new LinkedHashSet<>();
        for (int b = 0; b < 6; b++) {
            Block block = blocks.get(b);
            if (!block.bad && (block.touched || !useRegion)) {
                read += 8;
                known.addAll(block.live());
            } else if (!block.bad) {
                for (Page page : region) {
                    if (page.block == b) {
                        known.add(page);
                    }
                }
            }
        }
        try {
            for (Page page : stale(known)) {
                mark(page);
            }
        } catch (PowerFailed failed) {
            return -9;
        }
        on = true;
        return read;
    }

    private static List<Page> stale(Set<Page> known) {
        Set<Page> old = new LinkedHashSet<>();
        for (Page a : known) {
            for (Page b : known) {
                if (a.object == b.object && a.chunk == b.chunk && b.serial == (a.serial + 1) % 4) {
                    old.add(a);
                }
            }
        }
        int[] sizes = {-1, -1, -1, -1, -1, -1, -1, -1};
        for (Page page : known) {
            if (page.chunk == 0 && !old.contains(page)) {
                sizes[page.object] = page.size;
            }
        }
        List<Page> stale = new ArrayList<>();
        for (Page page : known) {
            if (old.contains(page) || (page.chunk > 0 && page.chunk > sizes[page.object])) {
                stale.add(page);
            }
        }
        return stale;
    }

    void cut(int n) {
        cut = n < 0 || n > 1000 ? -1 : n;
    }

    boolean flip(int block, int page, int bit) {
        if (block < 0 || block > 5 || page < 0 || page > 7 || bit < 0 || bit > 38) {
            return false;
        }
        Block b = blocks.get(block);
        if (b.bad || page >= b.pages.size() || b.pages.get(page).unreadable()) {
            return false;
        }
        Set<Integer> turned = b.pages.get(page).turned;
        if (!turned.remove(bit)) {
            turned.add(bit);
        }
        return true;
    }

    boolean wear(int block) {
        if (block < 0 || block > 5 || blocks.get(block).bad || blocks.get(block).worn) {
            return false;
        }
        blocks.get(block).worn = true;
        return true;
    }

    int tags(int block, int page) {
        if (block < 0 || block > 5 || page < 0 || page > 7) {
            return -1;
        }
        if (page >= blocks.get(block).pages.size()) {
            return -2;
        }
        Page p = blocks.get(block).pages.get(page);
        return p.object + 8 * p.chunk + 64 * p.serial + (p.marked ? 256 : 0) + 512 * p.parent
                + 4096 * p.size + (p.directory ? 32768 : 0);
    }

    int free() {
        int free = 0;
        for (Block block : blocks) {
            free += block.bad ? 0 : 8 - block.pages.size();
        }
        return free;
    }

    int erases(int block) {
        if (block < 0 || block > 5) {
            return -1;
        }
        return 2 * blocks.get(block).erases + (blocks.get(block).bad ? 1 : 0);
    }

    int steps() {
        return steps;
    }
}
