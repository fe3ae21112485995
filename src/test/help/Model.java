import java.util.ArrayList;
import java.util.Arrays;
import java.util.Comparator;
import java.util.List;
import java.util.NoSuchElementException;
import java.util.function.IntSupplier;

/** A second heap, written straight from the document's words with lists of blocks and recursion. */
final class Model {

    /** What a call that throws is told by: no call of a test answers one of these. */
    static final int NO_SUCH = Integer.MIN_VALUE + 1;
    static final int OUT_OF_BOUNDS = Integer.MIN_VALUE + 2;
    static final int BAD_ARGUMENT = Integer.MIN_VALUE + 3;

    /** A live or a free block; its payload is what the caller has put there. */
    static final class Block {
        final int address;
        final int words;
        final boolean live;
        boolean pinned;
        int[] payload;

        Block(int address, int words, boolean live) {
            this.address = address;
            this.words = words;
            this.live = live;
            payload = live ? new int[words - 1] : null;
        }

        int end() {
            return address + words;
        }
    }

    List<Block> blocks = new ArrayList<>();
    int window = -1;
    List<int[]> moves = new ArrayList<>();
    List<int[]> latest = new ArrayList<>();

    Model(int words) {
        int size = words < 16 ? 16 : words > 4096 ? 4096 : words;
        int all = 0;
        while (3 + all + 4 <= size) {
            all += 4;
        }
        blocks.add(new Block(4, all, false));
    }

    /** What the real heap answers, with what it throws told in the model's way. */
    static int answerOf(IntSupplier asked) {
        try {
            return asked.getAsInt();
        } catch (NoSuchElementException e) {
            return NO_SUCH;
        } catch (IndexOutOfBoundsException e) {
            return OUT_OF_BOUNDS;
        } catch (IllegalArgumentException e) {
            return BAD_ARGUMENT;
        }
    }

    static int blockFor(long words) {
        long least = 4;
        while (least <= words && least < 10000) {
            least += 4;
        }
        return (int) least;
    }

    Block at(int address, boolean live) {
        for (Block b : blocks) {
            if (b.address == address && b.live == live) {
                return b;
            }
        }
        return null;
    }

    List<Block> frees() {
        List<Block> found = new ArrayList<>();
        for (Block b : blocks) {
            if (!b.live) {
                found.add(b);
            }
        }
        return found;
    }

    int lives() {
        return blocks.size() - frees().size();
    }

    void endAdvice() {
        window = -1;
        moves = new ArrayList<>();
    }

    /** All live blocks stay, everything between them is free. */
    void rebuild(List<Block> live) {
        int start = blocks.get(0).address;
        int end = blocks.get(blocks.size() - 1).end();
        live.sort(Comparator.comparingInt(b -> b.address));
        List<Block> row = new ArrayList<>();
        for (Block b : live) {
            if (b.address > start) {
                row.add(new Block(start, b.address - start, false));
            }
            row.add(b);
            start = b.end();
        }
        if (end > start) {
            row.add(new Block(start, end - start, false));
        }
        blocks = row;
    }

    List<Block> livesWithout(Block gone) {
        List<Block> found = new ArrayList<>();
        for (Block b : blocks) {
            if (b.live && b != gone) {
                found.add(b);
            }
        }
        return found;
    }

    void replace(Block old, Block by) {
        List<Block> live = livesWithout(old);
        if (by != null) {
            live.add(by);
        }
        rebuild(live);
        endAdvice();
    }

    int give(int words, int a) {
        if (words < 1 || !Arrays.asList(4, 8, 16, 32, 64, 128, 256, 512, 1024).contains(a)) {
            return 0;
        }
        int need = blockFor(words);
        for (Block b : frees()) {
            for (int address = b.address; address + need <= b.end(); address += 4) {
                if (address % a == 0) {
                    replace(null, new Block(address, need, true));
                    return address;
                }
            }
        }
        return 0;
    }

    int free(int address) {
        Block b = at(address, true);
        if (b == null) {
            return 0;
        }
        replace(b, null);
        return 1;
    }

    void resize(Block b, int words) {
        Block other = new Block(b.address, words, true);
        other.pinned = b.pinned;
        other.payload = Arrays.copyOf(b.payload, words - 1);
        replace(b, other);
    }

    int grow(int address, int words) {
        Block b = at(address, true);
        if (b == null || words < 1) {
            return 0;
        }
        int need = blockFor(words);
        if (need <= b.words) {
            endAdvice();
            return 1;
        }
        Block behind = at(b.end(), false);
        if (behind == null || b.words + behind.words < need) {
            return 0;
        }
        resize(b, need);
        return 1;
    }

    int trim(int address, int words) {
        Block b = at(address, true);
        if (b == null || words < 1 || blockFor(words) > b.words) {
            return 0;
        }
        resize(b, blockFor(words));
        return 1;
    }

    int pin(int address, boolean is) {
        Block b = at(address, true);
        if (b == null) {
            return 0;
        }
        b.pinned = is;
        endAdvice();
        return 1;
    }

    int get(int address, int i) {
        Block b = at(address, true);
        if (b == null) {
            return NO_SUCH;
        }
        return i < 0 || i >= b.payload.length ? OUT_OF_BOUNDS : b.payload[i];
    }

    int set(int address, int i, int v) {
        int before = get(address, i);
        Block b = at(address, true);
        if (b != null && i >= 0 && i < b.payload.length) {
            b.payload[i] = v;
        }
        return before;
    }

    int sizeOf(int address) {
        Block b = at(address, true);
        return b == null ? -1 : b.words - 1;
    }

    static Block top(List<Block> tree) {
        Block top = null;
        for (Block b : tree) {
            if (top == null || b.words > top.words) {
                top = b;
            }
        }
        return top;
    }

    static List<Block> side(List<Block> tree, Block of, boolean right) {
        int k = tree.indexOf(of);
        return right ? tree.subList(k + 1, tree.size()) : tree.subList(0, k);
    }

    static int depth(List<Block> tree) {
        Block top = top(tree);
        return top == null ? 0 : 1 + Math.max(depth(side(tree, top, false)), depth(side(tree, top, true)));
    }

    int largest() {
        Block top = top(frees());
        return top == null ? 0 : top.words;
    }

    int count(int what) {
        switch (what) {
            case 0:
                return frees().size();
            case 1:
                return frees().stream().mapToInt(b -> b.words).sum();
            case 2:
                return lives();
            case 3:
                return moves.size();
            case 4:
                return depth(frees());
            default:
                return -1;
        }
    }

    int freeAt(int k) {
        return k < 0 || k >= frees().size() ? -1 : frees().get(k).address;
    }

    int branch(int address, int side) {
        Block b = at(address, false);
        if (b == null) {
            return NO_SUCH;
        }
        if (side < 0 || side > 2) {
            return BAD_ARGUMENT;
        }
        if (side == 2) {
            return b.words;
        }
        List<Block> tree = frees();
        Block top = top(tree);
        while (top != b) {
            tree = side(tree, top, b.address > top.address);
            top = top(tree);
        }
        Block below = top(side(tree, b, side == 1));
        return below == null ? 0 : below.address;
    }

    /** The blocks of the window from block k on; null if it is none. */
    List<Block> windowFrom(int k, int words) {
        List<Block> found = new ArrayList<>();
        int has = 0;
        for (int i = k; i < blocks.size() && has < words; i++) {
            Block b = blocks.get(i);
            if (b.live && b.pinned) {
                return null;
            }
            found.add(b);
            has += b.words;
        }
        return has < words ? null : found;
    }

    List<int[]> movesOut(List<Block> window) {
        List<Block> victims = new ArrayList<>();
        for (Block b : window) {
            if (b.live) {
                victims.add(b);
            }
        }
        victims.sort(Comparator.comparingInt((Block b) -> -b.words).thenComparingInt(b -> b.address));
        List<int[]> room = new ArrayList<>();
        for (Block b : frees()) {
            if (!window.contains(b)) {
                room.add(new int[] {b.address, b.words});
            }
        }
        List<int[]> out = new ArrayList<>();
        for (Block victim : victims) {
            int[] spot = null;
            for (int[] r : room) {
                if (spot == null && r[1] >= victim.words) {
                    spot = r;
                }
            }
            if (spot == null) {
                return null;
            }
            out.add(new int[] {victim.address, spot[0]});
            spot[0] += victim.words;
            spot[1] -= victim.words;
        }
        return out;
    }

    int advise(int words) {
        endAdvice();
        if (words < 1 || lives() > 128) {
            return -1;
        }
        for (int k = 0; k < blocks.size(); k++) {
            List<Block> stretch = windowFrom(k, words);
            List<int[]> out = stretch == null ? null : movesOut(stretch);
            if (out != null && (window == -1 || out.size() < moves.size())) {
                window = blocks.get(k).address;
                moves = out;
            }
        }
        return window == -1 ? -1 : moves.size();
    }

    int move(int i, int what) {
        if (i < 0 || i >= moves.size()) {
            return OUT_OF_BOUNDS;
        }
        return what == 0 || what == 1 ? moves.get(i)[what] : BAD_ARGUMENT;
    }

    int apply() {
        if (window == -1) {
            return -1;
        }
        latest = moves;
        List<Block> live = livesWithout(null);
        for (int[] m : moves) {
            Block from = at(m[0], true);
            Block to = new Block(m[1], from.words, true);
            to.payload = from.payload;
            live.remove(from);
            live.add(to);
        }
        rebuild(live);
        endAdvice();
        return latest.size();
    }

    int moved(int address) {
        for (int[] m : latest) {
            if (m[0] == address) {
                return m[1];
            }
        }
        return -1;
    }
}
