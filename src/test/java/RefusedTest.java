import java.util.NoSuchElementException;

/**
 * "A refused call (false, 0, NONE, one that throws) changes nothing else": of two heaps that are
 * made alike one gets the refused call, and then both must answer alike to everything.
 */
public final class RefusedTest extends Checks {

    private static final int ROW_END = 60;
    /** No live block has one of these in what made() makes. */
    private static final int[] NO_ADDRESSES = {
        MIN, -8, -4, -1, 0, 1, 3, 5, 9, 16, 24, 40, 60, 64, 4096, MAX - 3, MAX};

    private interface Ask {
        Object of(RunHeap x);
    }

    public static void main(String[] args) {
        run("refused give", RefusedTest::give);
        run("refused giveAligned", RefusedTest::giveAligned);
        run("refused free", RefusedTest::free);
        run("refused grow", RefusedTest::grow);
        run("refused trim", RefusedTest::trim);
        run("refused pin", RefusedTest::pin);
        run("refused get", RefusedTest::get);
        run("refused set", RefusedTest::set);
        run("refused questions", RefusedTest::questions);
        run("refused branch", RefusedTest::branch);
        run("refused move", RefusedTest::move);
        run("refused advise", RefusedTest::advise);
        run("refused apply", RefusedTest::apply);
        end("refused calls change nothing else");
    }

    /**
     * Live 4 (pinned), 8, 12 (8 words), 20 and 36 (pinned), free 24 (12 words) and 40 (20 words),
     * behind an apply that moved 40 to 8, and with the advice to move 12 and 20.
     */
    private static RunHeap made() {
        RunHeap x = rowOf(4, -4, 8, 4, -12, 4, 4, -16);
        for (int address : new int[] {4, 12, 20, 36, 40}) {
            mark(x, address, 10 * address);
        }
        due("advise(20)", x.advise(20), 1);
        due("apply()", x.apply(), 1);
        pin(x, 4, 36);
        due("advise(24)", x.advise(24), 2);
        return x;
    }

    private static Object answer(RunHeap x, Ask ask) {
        try {
            return ask.of(x);
        } catch (NoSuchElementException | IndexOutOfBoundsException | IllegalArgumentException e) {
            return e.getClass();
        }
    }

    /** Everything that the heap can be asked; advice comes last, as it ends the one before. */
    private static String look(RunHeap x) {
        StringBuilder seen = new StringBuilder();
        lookAtAdvice(seen, x);
        for (int what = 0; what < 5; what++) {
            seen.append(" count ").append(x.count(what));
        }
        seen.append(" largest ").append(x.largest());
        for (int address = 4; address < ROW_END; address += 4) {
            lookAtBlock(seen, x, address);
        }
        for (int words : new int[] {8, 16, 24, 28, 36}) {
            seen.append(" advise ").append(x.advise(words));
            lookAtAdvice(seen, x);
        }
        return seen.toString();
    }

    private static void lookAtAdvice(StringBuilder seen, RunHeap x) {
        seen.append(" window ").append(x.window());
        for (int i = 0; i < x.count(3); i++) {
            seen.append(" move ").append(x.move(i, 0)).append(" to ").append(x.move(i, 1));
        }
    }

    private static void lookAtBlock(StringBuilder seen, RunHeap x, int address) {
        int size = x.sizeOf(address);
        seen.append(" at ").append(address).append(" size ").append(size);
        seen.append(" moved ").append(x.moved(address));
        for (int side = 0; side < 3 && size == NONE; side++) {
            int asked = side;
            seen.append(" branch ").append(answer(x, y -> y.branch(address, asked)));
        }
        for (int i = 0; i < size; i++) {
            seen.append(" word ").append(x.get(address, i));
        }
    }

    private static void refused(String call, Object want, Ask ask) {
        RunHeap x = made();
        due(call, answer(x, ask), want);
        due("everything behind " + call, look(x), look(made()));
        RunHeap applied = made();
        due(call, answer(applied, ask), want);
        due("apply() behind " + call, applied.apply(), 2);
        RunHeap alike = made();
        alike.apply();
        due("everything behind " + call + " and apply()", look(applied), look(alike));
    }

    private static void give() {
        for (int words : new int[] {MIN, -4, -1, 0, 20, 21, 56, 4092, MAX - 3, MAX}) {
            refused("give(" + words + ")", 0, x -> x.give(words));
        }
    }

    private static void giveAligned() {
        for (int a : new int[] {MIN, -1024, -4, -1, 0, 1, 2, 3, 6, 12, 1020, 1028, 2048, 1 << 30, MAX}) {
            refused("giveAligned(1, " + a + ")", 0, x -> x.giveAligned(1, a));
        }
        for (int words : new int[] {MIN, -1, 0, 20, MAX}) {
            refused("giveAligned(" + words + ", 4)", 0, x -> x.giveAligned(words, 4));
            refused("giveAligned(" + words + ", 1024)", 0, x -> x.giveAligned(words, 1024));
        }
        refused("giveAligned(1, 64)", 0, x -> x.giveAligned(1, 64));
        refused("giveAligned(12, 16)", 0, x -> x.giveAligned(12, 16));
    }

    private static void free() {
        for (int address : NO_ADDRESSES) {
            refused("free(" + address + ")", false, x -> x.free(address));
        }
    }

    private static void grow() {
        for (int address : NO_ADDRESSES) {
            refused("grow(" + address + ", 1)", false, x -> x.grow(address, 1));
            refused("grow(" + address + ", 12)", false, x -> x.grow(address, 12));
        }
        for (int words : new int[] {MIN, -1, 0, 16, 17, MAX - 3, MAX}) {
            refused("grow(20, " + words + ")", false, x -> x.grow(20, words));
        }
        refused("grow(8, 4) before a live block", false, x -> x.grow(8, 4));
        refused("grow(36, 24) at the end", false, x -> x.grow(36, 24));
    }

    private static void trim() {
        for (int address : NO_ADDRESSES) {
            refused("trim(" + address + ", 1)", false, x -> x.trim(address, 1));
        }
        for (int words : new int[] {MIN, -1, 0, 8, 9, MAX - 3, MAX}) {
            refused("trim(12, " + words + ")", false, x -> x.trim(12, words));
        }
    }

    private static void pin() {
        for (int address : NO_ADDRESSES) {
            refused("pin(" + address + ", true)", false, x -> x.pin(address, true));
            refused("pin(" + address + ", false)", false, x -> x.pin(address, false));
        }
    }

    private static void get() {
        for (int address : NO_ADDRESSES) {
            refused("get(" + address + ", 0)", NoSuchElementException.class, x -> x.get(address, 0));
        }
        for (int i : new int[] {MIN, -1, 7, 8, MAX}) {
            refused("get(12, " + i + ")", IndexOutOfBoundsException.class, x -> x.get(12, i));
        }
    }

    private static void set() {
        for (int address : NO_ADDRESSES) {
            refused("set(" + address + ", 0, 9)", NoSuchElementException.class, x -> x.set(address, 0, 9));
        }
        for (int i : new int[] {MIN, -8, -4, -1, 7, 8, 12, MAX}) {
            refused("set(12, " + i + ", 9)", IndexOutOfBoundsException.class, x -> x.set(12, i, 9));
        }
    }

    private static void questions() {
        for (int address : NO_ADDRESSES) {
            refused("sizeOf(" + address + ")", NONE, x -> x.sizeOf(address));
        }
        for (int address : new int[] {MIN, -4, 0, 4, 8, 12, 36, 41, 44, 60, 4096, MAX}) {
            refused("moved(" + address + ")", NONE, x -> x.moved(address));
        }
        for (int what : new int[] {MIN, -1, 5, MAX}) {
            refused("count(" + what + ")", NONE, x -> x.count(what));
        }
        for (int k : new int[] {MIN, -1, 2, 3, MAX}) {
            refused("freeAt(" + k + ")", NONE, x -> x.freeAt(k));
        }
    }

    private static void branch() {
        for (int address : new int[] {MIN, -4, 0, 3, 4, 8, 12, 16, 25, 28, 36, 44, 60, 4096, MAX}) {
            refused("branch(" + address + ", 0)", NoSuchElementException.class, x -> x.branch(address, 0));
        }
        for (int side : new int[] {MIN, -1, 3, MAX}) {
            refused("branch(24, " + side + ")", IllegalArgumentException.class, x -> x.branch(24, side));
        }
    }

    private static void move() {
        for (int i : new int[] {MIN, -1, 2, 3, MAX}) {
            refused("move(" + i + ", 0)", IndexOutOfBoundsException.class, x -> x.move(i, 0));
        }
        for (int what : new int[] {MIN, -1, 2, MAX}) {
            refused("move(1, " + what + ")", IllegalArgumentException.class, x -> x.move(1, what));
        }
    }

    /** The advice before ends with it, and nothing else: so it does with a pin that was one already. */
    private static void advise() {
        for (int words : new int[] {MIN, -1, 0, 44, 57, 4096, MAX - 3, MAX}) {
            RunHeap x = made();
            due("advise(" + words + ")", x.advise(words), NONE);
            RunHeap alike = made();
            pin(alike, 4);
            due("everything behind advise(" + words + ")", look(x), look(alike));
        }
    }

    private static void apply() {
        RunHeap x = made();
        pin(x, 4);
        due("apply()", x.apply(), NONE);
        RunHeap alike = made();
        pin(alike, 4);
        due("everything behind apply()", look(x), look(alike));
        due("moved(40), still of the latest apply", x.moved(40), 8);
    }
}
