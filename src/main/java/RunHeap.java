import java.util.NoSuchElementException;

/**
 * A heap of words whose free blocks form one tree, by addresses from left to right and by sizes
 * from the top down.
 *
 * <p>Inside, lengths are told in groups of four words and a block is told by its first group:
 * group g is the words 4g - 1 .. 4g + 2, so the block that begins with it has the address 4g, and
 * group 0 is never a block's. No number of words that a caller asks for can overflow this way.
 */
public final class RunHeap {

    public static final int NONE = -1;

    private static final int GROUP = 4;
    private static final int LEAST_WORDS = 16;
    private static final int MOST_WORDS = 4096;
    private static final int MOST_ALIGNED = 1024;

    private final Row row;
    private final Tree tree;
    private final Advice advice;
    /** By a block's group before the latest apply, its group behind it; 0 where none was moved. */
    private final int[] cameTo;

    public RunHeap(int words) {
        row = new Row(Math.max(LEAST_WORDS, Math.min(MOST_WORDS, words)));
        tree = new Tree(row);
        advice = new Advice(row);
        cameTo = new int[row.groups + 1];
    }

    public int give(int words) {
        return giveAligned(words, GROUP);
    }

    public int giveAligned(int words, int a) {
        if (words < 1 || !isAlignment(a)) {
            return 0;
        }
        int block = row.takeLowest(groupsFor(words), a / GROUP);
        if (block == 0) {
            return 0;
        }
        advice.drop();
        return block * GROUP;
    }

    public boolean free(int address) {
        int block = row.liveAt(address);
        if (block == 0) {
            return false;
        }
        row.release(block);
        advice.drop();
        return true;
    }

    public boolean grow(int address, int words) {
        int block = row.liveAt(address);
        if (block == 0 || words < 1 || !row.lengthen(block, groupsFor(words))) {
            return false;
        }
        advice.drop();
        return true;
    }

    public boolean trim(int address, int words) {
        int block = row.liveAt(address);
        if (block == 0 || words < 1 || !row.shorten(block, groupsFor(words))) {
            return false;
        }
        advice.drop();
        return true;
    }

    public boolean pin(int address, boolean is) {
        int block = row.liveAt(address);
        if (block == 0) {
            return false;
        }
        row.hold(block, is);
        advice.drop();
        return true;
    }

    public int get(int address, int i) throws NoSuchElementException, IndexOutOfBoundsException {
        return row.words[payloadWord(address, i)];
    }

    public int set(int address, int i, int v)
            throws NoSuchElementException, IndexOutOfBoundsException {
        int at = payloadWord(address, i);
        int before = row.words[at];
        row.words[at] = v;
        return before;
    }

    public int sizeOf(int address) {
        int block = row.liveAt(address);
        return block == 0 ? NONE : row.payloadOf(block);
    }

    public int largest() {
        return row.longestFree() * GROUP;
    }

    public int count(int what) {
        switch (what) {
            case 0:
                return row.freeBlocks();
            case 1:
                return row.freeGroups() * GROUP;
            case 2:
                return row.liveBlocks();
            case 3:
                return advice.moves;
            case 4:
                return tree.depth();
            default:
                return NONE;
        }
    }

    public int freeAt(int k) {
        int block = row.freeBlock(k);
        return block == 0 ? NONE : block * GROUP;
    }

    public int branch(int address, int side)
            throws NoSuchElementException, IllegalArgumentException {
        int block = row.freeBlockAt(address);
        if (block == 0) {
            throw new NoSuchElementException("no free block has that address");
        }
        switch (side) {
            case 0:
                return tree.topToTheLeft(block) * GROUP;
            case 1:
                return tree.topToTheRight(block) * GROUP;
            case 2:
                return row.lengths[block] * GROUP;
            default:
                throw new IllegalArgumentException("side is 0, 1 or 2");
        }
    }

    public int advise(int words) {
        return advice.seek(words) ? advice.moves : NONE;
    }

    public int window() {
        return advice.isThere() ? advice.firstBlock * GROUP : NONE;
    }

    public int move(int i, int what) throws IndexOutOfBoundsException, IllegalArgumentException {
        if (i < 0 || i >= advice.moves) {
            throw new IndexOutOfBoundsException("there is no such move");
        }
        switch (what) {
            case 0:
                return advice.from[i] * GROUP;
            case 1:
                return advice.to[i] * GROUP;
            default:
                throw new IllegalArgumentException("what is 0 or 1");
        }
    }

    public int apply() {
        if (!advice.isThere()) {
            return NONE;
        }
        int made = advice.moves;
        noteMoves();
        makeMoves();
        advice.drop();
        return made;
    }

    public int moved(int address) {
        int block = row.groupAt(address);
        return cameTo[block] == 0 ? NONE : cameTo[block] * GROUP;
    }

    private static boolean isAlignment(int a) {
        return a >= GROUP && a <= MOST_ALIGNED && Integer.bitCount(a) == 1;
    }

    /** The block's own word comes on top of the payload, so a whole number of groups is one more. */
    private static int groupsFor(int words) {
        return words / GROUP + 1;
    }

    private int payloadWord(int address, int i) {
        int block = row.liveAt(address);
        if (block == 0) {
            throw new NoSuchElementException("no live block has that address");
        }
        if (i < 0 || i >= row.payloadOf(block)) {
            throw new IndexOutOfBoundsException("the payload has no such word");
        }
        return block * GROUP + i;
    }

    private void noteMoves() {
        for (int block = 0; block < cameTo.length; block++) {
            cameTo[block] = 0;
        }
        for (int i = 0; i < advice.moves; i++) {
            cameTo[advice.from[i]] = advice.to[i];
        }
    }

    /**
     * No victim is released before all are placed: a free block that joins one in front of it
     * would no longer begin where the next victim is to go.
     */
    private void makeMoves() {
        for (int i = 0; i < advice.moves; i++) {
            row.copyInto(advice.from[i], advice.to[i]);
        }
        for (int i = 0; i < advice.moves; i++) {
            row.release(advice.from[i]);
        }
    }

    /** The words and the blocks that they are divided into. */
    private static final class Row {

        private static final int NO_BLOCK = 0;
        private static final int FREE = 1;
        private static final int LIVE = 2;
        private static final int PINNED = 3;

        private final int groups;
        private final int[] words;
        /** Of the block that begins with a group; NO_BLOCK and 0 where none does. */
        private final int[] kinds;
        private final int[] lengths;

        Row(int size) {
            groups = (size - 3) / GROUP;
            words = new int[size];
            kinds = new int[groups + 1];
            lengths = new int[groups + 1];
            kinds[1] = FREE;
            lengths[1] = groups;
        }

        /** The group that an address is of; 0 if no block can have that address. */
        int groupAt(int address) {
            boolean fits = address > 0 && address % GROUP == 0 && address / GROUP <= groups;
            return fits ? address / GROUP : 0;
        }

        int liveAt(int address) {
            int group = groupAt(address);
            return isLive(group) ? group : 0;
        }

        int freeBlockAt(int address) {
            int group = groupAt(address);
            return isFree(group) ? group : 0;
        }

        boolean isFree(int group) {
            return group <= groups && kinds[group] == FREE;
        }

        boolean isLive(int group) {
            return kinds[group] == LIVE || kinds[group] == PINNED;
        }

        boolean isPinned(int group) {
            return kinds[group] == PINNED;
        }

        int payloadOf(int block) {
            return lengths[block] * GROUP - 1;
        }

        void hold(int block, boolean is) {
            kinds[block] = is ? PINNED : LIVE;
        }

        /** A new live block at the lowest multiple of step, a power of 2, where it fits; else 0. */
        int takeLowest(int length, int step) {
            for (int b = 1; b <= groups; b += Math.max(1, lengths[b])) {
                int at = (b + step - 1) & -step;
                if (kinds[b] == FREE && at - b + length <= lengths[b]) {
                    carve(b, at, length);
                    clear(at, at + length);
                    return at;
                }
            }
            return 0;
        }

        /** A block becomes free and one with its free neighbours. */
        void release(int block) {
            int first = firstOfFreeRun(block);
            int behind = block + lengths[block];
            int end = behind;
            if (isFree(behind)) {
                end += lengths[behind];
                erase(behind);
            }
            erase(block);
            put(first, end - first, FREE);
        }

        boolean lengthen(int block, int length) {
            int old = lengths[block];
            if (length <= old) {
                return true;
            }
            int behind = block + old;
            int more = length - old;
            if (!isFree(behind) || lengths[behind] < more) {
                return false;
            }
            int rest = lengths[behind] - more;
            erase(behind);
            lengths[block] = length;
            put(block + length, rest, FREE);
            clear(behind, behind + more);
            return true;
        }

        boolean shorten(int block, int length) {
            int tail = lengths[block] - length;
            if (tail < 0) {
                return false;
            }
            if (tail > 0) {
                lengths[block] = length;
                put(block + length, tail, LIVE);
                release(block + length);
            }
            return true;
        }

        /** The free block that begins at a place takes a copy of a live block into its low end. */
        void copyInto(int block, int place) {
            int length = lengths[block];
            carve(place, place, length);
            System.arraycopy(words, block * GROUP, words, place * GROUP, payloadOf(block));
        }

        int longestFree() {
            int longest = 0;
            for (int b = 1; b <= groups; b += Math.max(1, lengths[b])) {
                if (kinds[b] == FREE) {
                    longest = Math.max(longest, lengths[b]);
                }
            }
            return longest;
        }

        int freeBlocks() {
            int found = 0;
            for (int b = 1; b <= groups; b += Math.max(1, lengths[b])) {
                if (kinds[b] == FREE) {
                    found++;
                }
            }
            return found;
        }

        int freeGroups() {
            int found = 0;
            for (int b = 1; b <= groups; b += Math.max(1, lengths[b])) {
                if (kinds[b] == FREE) {
                    found += lengths[b];
                }
            }
            return found;
        }

        int liveBlocks() {
            int found = 0;
            for (int b = 1; b <= groups; b += Math.max(1, lengths[b])) {
                if (isLive(b)) {
                    found++;
                }
            }
            return found;
        }

        /** The k-th free block, from 0, the lowest, on; 0 if there is none. */
        int freeBlock(int k) {
            int found = 0;
            for (int b = 1; b <= groups; b += Math.max(1, lengths[b])) {
                if (kinds[b] == FREE) {
                    if (found == k) {
                        return b;
                    }
                    found++;
                }
            }
            return 0;
        }

        /** Where the free block that lies directly before a block begins, or else that block. */
        private int firstOfFreeRun(int block) {
            for (int b = block - 1; b > 0; b--) {
                if (kinds[b] != NO_BLOCK) {
                    return kinds[b] == FREE ? b : block;
                }
            }
            return block;
        }

        /** Out of a free block a live one is cut; what is before it and behind it stays free. */
        private void carve(int block, int at, int length) {
            int end = block + lengths[block];
            put(block, at - block, FREE);
            put(at, length, LIVE);
            put(at + length, end - at - length, FREE);
        }

        /** A block without length is none: what is cut off at an edge leaves nothing over. */
        private void put(int block, int length, int kind) {
            if (length > 0) {
                kinds[block] = kind;
                lengths[block] = length;
            }
        }

        private void erase(int block) {
            kinds[block] = NO_BLOCK;
            lengths[block] = 0;
        }

        private void clear(int fromGroup, int toGroup) {
            for (int at = fromGroup * GROUP - 1; at < toGroup * GROUP - 1; at++) {
                words[at] = 0;
            }
        }
    }

    /**
     * The tree of the free blocks. It is told by the row alone, so none is kept: what is to one
     * side of a block reaches up to the next one there that has its place above it.
     */
    private static final class Tree {

        private final Row row;
        /** The way from the top to the highest block looked at, and how deep it is to their left. */
        private final int[] way;
        private final int[] leftDepth;

        Tree(Row row) {
            this.row = row;
            way = new int[row.groups / 2 + 1];
            leftDepth = new int[row.groups / 2 + 1];
        }

        /** Of equal blocks the lowest is above the others, so an equal one ends the search. */
        int topToTheLeft(int block) {
            int top = 0;
            for (int b = block - 1; b > 0; b--) {
                if (row.isFree(b)) {
                    if (row.lengths[b] >= row.lengths[block]) {
                        return top;
                    }
                    if (row.lengths[b] >= row.lengths[top]) {
                        top = b;
                    }
                }
            }
            return top;
        }

        int topToTheRight(int block) {
            int top = 0;
            for (int b = block + 1; b <= row.groups; b++) {
                if (row.isFree(b)) {
                    if (row.lengths[b] > row.lengths[block]) {
                        return top;
                    }
                    if (row.lengths[b] > row.lengths[top]) {
                        top = b;
                    }
                }
            }
            return top;
        }

        /** Without recursion, as the tree may be one chain of all free blocks. */
        int depth() {
            int steps = 0;
            for (int b = 1; b <= row.groups; b += Math.max(1, row.lengths[b])) {
                if (row.isFree(b)) {
                    int below = 0;
                    while (steps > 0 && row.lengths[way[steps - 1]] < row.lengths[b]) {
                        steps--;
                        below = 1 + Math.max(leftDepth[steps], below);
                    }
                    way[steps] = b;
                    leftDepth[steps] = below;
                    steps++;
                }
            }
            return depthOfWay(steps);
        }

        private int depthOfWay(int steps) {
            int below = 0;
            for (int i = steps - 1; i >= 0; i--) {
                below = 1 + Math.max(leftDepth[i], below);
            }
            return below;
        }
    }

    /** The latest advice, if it is there, and the search for it. */
    private static final class Advice {

        private static final int MOST_LIVE = 128;
        /** No two free blocks lie side by side, so at most one more than the live ones. */
        private static final int MOST_BLOCKS = 2 * MOST_LIVE + 1;

        private final Row row;
        /** The first block of the advised window; 0 if no advice is there. */
        private int firstBlock;
        private int moves;
        private final int[] from;
        private final int[] to;
        /** All blocks by their addresses; the search tells a block by its index here. */
        private final int[] blocks;
        private int blockCount;
        /** The live blocks' indexes in the order in which victims are placed. */
        private final int[] turns;
        private int liveCount;
        /** How much of a block victims can still go into. */
        private final int[] left;

        Advice(Row row) {
            this.row = row;
            from = new int[MOST_LIVE];
            to = new int[MOST_LIVE];
            blocks = new int[MOST_BLOCKS];
            turns = new int[MOST_LIVE];
            left = new int[MOST_BLOCKS];
        }

        boolean isThere() {
            return firstBlock > 0;
        }

        void drop() {
            firstBlock = 0;
            moves = 0;
        }

        boolean seek(int words) {
            drop();
            if (words < 1 || row.liveBlocks() > MOST_LIVE) {
                return false;
            }
            listBlocks();
            int start = bestStart(words);
            if (start == NONE || !place(start, endOf(start, words))) {
                drop();
                return false;
            }
            firstBlock = blocks[start];
            return true;
        }

        /** The index of the advised window's first block, or NONE; leaves other moves behind. */
        private int bestStart(int words) {
            int best = NONE;
            int fewest = MOST_LIVE + 1;
            for (int start = 0; start < blockCount; start++) {
                int end = endOf(start, words);
                int victims = victimsIn(start, end);
                if (end != NONE && victims < fewest && place(start, end)) {
                    best = start;
                    fewest = victims;
                }
            }
            return best;
        }

        private void listBlocks() {
            blockCount = 0;
            liveCount = 0;
            for (int b = 1; b <= row.groups; b += Math.max(1, row.lengths[b])) {
                if (blockCount < MOST_BLOCKS) {
                    blocks[blockCount] = b;
                    if (row.isLive(b)) {
                        giveTurn(blockCount);
                    }
                    blockCount++;
                }
            }
        }

        /** Comes by addresses, so equal ones keep that order if none overtakes its like. */
        private void giveTurn(int index) {
            int turn = liveCount;
            while (turn > 0 && lengthOf(turns[turn - 1]) < lengthOf(index)) {
                turns[turn] = turns[turn - 1];
                turn--;
            }
            turns[turn] = index;
            liveCount++;
        }

        private int lengthOf(int index) {
            return row.lengths[blocks[index]];
        }

        /** The index behind the window that begins with a block; NONE if there is no such window. */
        private int endOf(int start, int words) {
            int has = 0;
            for (int i = start; i < blockCount; i++) {
                if (row.isPinned(blocks[i])) {
                    return NONE;
                }
                has += lengthOf(i) * GROUP;
                if (has >= words) {
                    return i + 1;
                }
            }
            return NONE;
        }

        private int victimsIn(int start, int end) {
            int victims = 0;
            for (int i = start; i < end; i++) {
                if (row.isLive(blocks[i])) {
                    victims++;
                }
            }
            return victims;
        }

        /** Tries the moves out; they are whole only if all victims find a place. */
        private boolean place(int start, int end) {
            openOutside(start, end);
            moves = 0;
            for (int turn = 0; turn < liveCount; turn++) {
                int victim = turns[turn];
                if (victim >= start && victim < end) {
                    int at = placeFor(lengthOf(victim));
                    if (at == 0) {
                        return false;
                    }
                    from[moves] = blocks[victim];
                    to[moves] = at;
                    moves++;
                }
            }
            return true;
        }

        private void openOutside(int start, int end) {
            for (int i = 0; i < blockCount; i++) {
                boolean outside = i < start || i >= end;
                left[i] = outside && row.isFree(blocks[i]) ? lengthOf(i) : 0;
            }
        }

        private int placeFor(int length) {
            for (int i = 0; i < blockCount; i++) {
                if (left[i] >= length) {
                    int at = blocks[i] + lengthOf(i) - left[i];
                    left[i] -= length;
                    return at;
                }
            }
            return 0;
        }
    }
}
