/** Each promise of the document by hand: ordinary inputs, the edges it names, wrong inputs. */
public final class PromiseTest extends Checks {

    public static void main(String[] args) {
        run("promise 1", PromiseTest::newObject);
        run("promise 2", PromiseTest::give);
        run("promise 3", PromiseTest::giveAligned);
        run("promise 4", PromiseTest::free);
        run("promise 5", PromiseTest::grow);
        run("promise 6", PromiseTest::trim);
        run("promise 7", PromiseTest::pin);
        run("promise 8", PromiseTest::get);
        run("promise 9", PromiseTest::set);
        run("promise 10", PromiseTest::sizeOf);
        run("promise 11", PromiseTest::largest);
        run("promise 12", PromiseTest::count);
        run("promise 12", PromiseTest::depthOfChains);
        run("promise 13", PromiseTest::freeAt);
        run("promise 14", PromiseTest::branch);
        run("promise 15", PromiseTest::advise);
        run("promise 15", PromiseTest::adviseOrder);
        run("promise 15", PromiseTest::adviseLimit);
        run("promise 15", PromiseTest::adviseMostVictims);
        run("promise 16", PromiseTest::window);
        run("promise 17", PromiseTest::move);
        run("promise 18", PromiseTest::apply);
        run("promise 18", PromiseTest::applyBesideTheWindow);
        run("promise 19", PromiseTest::moved);
        end("all promises hold");
    }

    private static void newObject() {
        due("NONE", RunHeap.NONE, -1);
        int[][] wordsAndFree = {
            {16, 12}, {17, 12}, {18, 12}, {19, 16}, {20, 16}, {40, 36}, {43, 40}, {4095, 4092}, {4096, 4092},
            {15, 12}, {0, 12}, {-5, 12}, {MIN, 12}, {4097, 4092}, {4100, 4092}, {MAX, 4092}};
        for (int[] pair : wordsAndFree) {
            RunHeap x = new RunHeap(pair[0]);
            due("largest() of " + pair[0], x.largest(), pair[1]);
            due("count(0) of " + pair[0], x.count(0), 1);
            due("count(2) of " + pair[0], x.count(2), 0);
            due("freeAt(0) of " + pair[0], x.freeAt(0), 4);
            due("window() of " + pair[0], x.window(), -1);
            due("moved(4) of " + pair[0], x.moved(4), -1);
            due("apply() of " + pair[0], x.apply(), -1);
        }
    }

    private static void give() {
        RunHeap x = new RunHeap(40);
        for (int bad : new int[] {0, -1, MIN, 36, 37, 4096, MAX, MAX - 3}) {
            due("give(" + bad + ")", x.give(bad), 0);
        }
        due("nothing given", x.count(2), 0);
        due("give(35)", x.give(35), 4);
        due("give(1) of a full heap", x.give(1), 0);
        x = new RunHeap(40);
        due("give(1)", x.give(1), 4);
        due("give(3)", x.give(3), 8);
        due("give(4)", x.give(4), 12);
        due("give(7)", x.give(7), 20);
        due("give(8)", x.give(8), 28);
        due("largest()", x.largest(), 0);
        x.free(4);
        x.free(12);
        x.free(28);
        due("give(5): the lowest that is large enough, not the largest", x.give(5), 12);
        due("give(5) again", x.give(5), 28);
        due("give(2)", x.give(2), 4);
        due("what is left over is free", x.freeAt(0), 36);
        for (int i = 0; i < 7; i++) {
            x.set(12, i, 100 + i);
        }
        x.free(12);
        x.give(7);
        for (int i = 0; i < 7; i++) {
            due("get(12, " + i + ") of a new block", x.get(12, i), 0);
        }
    }

    private static void giveAligned() {
        RunHeap x = new RunHeap(4096);
        for (int bad : new int[] {MIN, -4, 0, 1, 2, 3, 5, 6, 12, 24, 1020, 1025, 2048, 4096, MAX}) {
            due("giveAligned(1, " + bad + ")", x.giveAligned(1, bad), 0);
        }
        for (int bad : new int[] {0, -1, MIN, 4092, MAX}) {
            due("giveAligned(" + bad + ", 4)", x.giveAligned(bad, 4), 0);
        }
        due("giveAligned(3073, 1024)", x.giveAligned(3073, 1024), 0);
        due("still one free block", x.count(0), 1);
        for (int a = 4; a <= 1024; a *= 2) {
            due("giveAligned(3, " + a + ")", new RunHeap(4096).giveAligned(3, a), a);
        }
        due("giveAligned(3071, 1024): up to the end", x.giveAligned(3071, 1024), 1024);
        due("before it is free", x.branch(4, 2), 1020);
        due("none behind it", x.count(0), 1);
        due("giveAligned(3, 512)", x.giveAligned(3, 512), 512);
        due("free on both sides", x.count(0), 2);
        due("behind it", x.freeAt(1), 516);
        due("giveAligned(500, 512): the lowest is taken", x.giveAligned(500, 512), 0);
        due("giveAligned(500, 4)", x.giveAligned(500, 4), 4);
        x.set(512, 2, 9);
        x.free(512);
        due("giveAligned(2, 512) again", x.giveAligned(2, 512), 512);
        due("all words are 0", x.get(512, 2), 0);
        RunHeap small = new RunHeap(16);
        due("giveAligned(3, 16) behind the last word", small.giveAligned(3, 16), 0);
        due("giveAligned(4, 8)", small.giveAligned(4, 8), 8);
        due("giveAligned(1, 4)", small.giveAligned(1, 4), 4);
    }

    private static void free() {
        RunHeap x = heapOf(40, 3, 3, 3, 3, 3, 3, 3, 3, 3);
        for (int bad : new int[] {MIN, -4, -1, 0, 3, 5, 6, 7, 40, 44, 4096, MAX, MAX - 3}) {
            due("free(" + bad + ")", x.free(bad), false);
        }
        due("free(8)", x.free(8), true);
        due("free(8) again", x.free(8), false);
        due("free(16)", x.free(16), true);
        due("two apart", x.count(0), 2);
        due("free(12)", x.free(12), true);
        due("one with both neighbours", x.count(0), 1);
        due("its words", x.branch(8, 2), 12);
        due("free(20): one with the lower", x.free(20), true);
        due("its words", x.branch(8, 2), 16);
        due("free(4): one with the higher", x.free(4), true);
        due("its words", x.branch(4, 2), 20);
        due("free(36): the last", x.free(36), true);
        due("apart", x.count(0), 2);
        due("free(16) inside a free block", x.free(16), false);
        RunHeap pinned = heapOf(24, -3, 3);
        pinned.pin(8, true);
        due("advise(16) with a pinned block", pinned.advise(16), -1);
        due("free(8): pinned", pinned.free(8), true);
        pinned.give(3);
        pinned.give(3);
        pinned.free(4);
        due("advise(16): a new block there is not pinned", pinned.advise(16), 1);
    }

    private static void grow() {
        RunHeap x = heapOf(60, 3, -7, 3, -3, -3, 3);
        for (int bad : new int[] {MIN, -4, 0, 3, 5, 8, 12, 60, 4096, MAX}) {
            due("grow(" + bad + ", 3)", x.grow(bad, 3), false);
        }
        for (int bad : new int[] {MIN, -1, 0, 12, 13, MAX, MAX - 3}) {
            due("grow(4, " + bad + ")", x.grow(4, bad), false);
        }
        due("stays as it was", x.sizeOf(4), 3);
        due("grow(4, 1)", x.grow(4, 1), true);
        due("stays as it is", x.sizeOf(4), 3);
        due("grow(4, 4)", x.grow(4, 4), true);
        due("sizeOf(4)", x.sizeOf(4), 7);
        due("the rest is free", x.branch(12, 2), 4);
        for (int i = 0; i < 7; i++) {
            x.set(4, i, i + 1);
        }
        due("grow(4, 11): the whole of it", x.grow(4, 11), true);
        due("freeAt(0)", x.freeAt(0), 20);
        for (int i = 0; i < 11; i++) {
            due("get(4, " + i + ")", x.get(4, i), i < 7 ? i + 1 : 0);
        }
        due("grow(4, 12): a live block behind", x.grow(4, 12), false);
        for (int i = 0; i < 11; i++) {
            x.set(4, i, 50 + i);
        }
        x.trim(4, 2);
        due("grow(4, 9) behind a trim", x.grow(4, 9), true);
        for (int i = 0; i < 11; i++) {
            due("get(4, " + i + ") behind a trim", x.get(4, i), i < 3 ? 50 + i : 0);
        }
        RunHeap end = heapOf(16, 3, 7);
        due("grow(8, 8): none behind", end.grow(8, 8), false);
        due("grow(8, 7): large enough", end.grow(8, 7), true);
        RunHeap pinned = heapOf(16, 3);
        pinned.pin(4, true);
        due("grow(4, 4)", pinned.grow(4, 4), true);
        due("still pinned", pinned.advise(12), -1);
        pinned.pin(4, false);
        due("grow(4, 11)", pinned.grow(4, 11), true);
        due("no free block is left", pinned.count(0), 0);
    }

    private static void trim() {
        RunHeap x = heapOf(60, 15, 3, -7);
        for (int bad : new int[] {MIN, -4, 0, 3, 5, 8, 24, 60, 4096, MAX}) {
            due("trim(" + bad + ", 1)", x.trim(bad, 1), false);
        }
        for (int bad : new int[] {MIN, -1, 0, 16, 17, MAX, MAX - 3}) {
            due("trim(4, " + bad + ")", x.trim(4, bad), false);
        }
        due("trim(4, 12): one already", x.trim(4, 12), true);
        due("sizeOf(4)", x.sizeOf(4), 15);
        due("nothing comes free", x.count(0), 1);
        x.set(4, 6, 66);
        due("trim(4, 7)", x.trim(4, 7), true);
        due("sizeOf(4)", x.sizeOf(4), 7);
        due("get(4, 6)", x.get(4, 6), 66);
        due("what is behind is free", x.freeAt(0), 12);
        due("its words", x.branch(12, 2), 8);
        due("trim(4, 4): one already", x.trim(4, 4), true);
        due("trim(4, 8): it would be larger", x.trim(4, 8), false);
        due("trim(4, 1)", x.trim(4, 1), true);
        due("one with the free block behind", x.branch(8, 2), 12);
        due("count(0)", x.count(0), 2);
        RunHeap pinned = heapOf(16, 11);
        pinned.pin(4, true);
        due("trim(4, 3)", pinned.trim(4, 3), true);
        due("still pinned", pinned.advise(12), -1);
        due("its tail is not", pinned.advise(8), 0);
    }

    private static void pin() {
        RunHeap x = heapOf(28, 3, -7, 3, -7);
        for (int bad : new int[] {MIN, -4, 0, 3, 5, 8, 12, 28, 4096, MAX}) {
            due("pin(" + bad + ", true)", x.pin(bad, true), false);
            due("pin(" + bad + ", false)", x.pin(bad, false), false);
        }
        due("advise(12)", x.advise(12), 1);
        due("pin(4, true)", x.pin(4, true), true);
        due("pin(16, true)", x.pin(16, true), true);
        due("pin(16, true) again", x.pin(16, true), true);
        due("advise(12)", x.advise(12), -1);
        due("advise(8)", x.advise(8), 0);
        due("pin(16, false)", x.pin(16, false), true);
        due("pin(16, false) again", x.pin(16, false), true);
        due("advise(12)", x.advise(12), 1);
        due("window()", x.window(), 8);
        due("move(0, 1)", x.move(0, 1), 20);
        due("get of a pinned block", x.get(4, 0), 0);
        due("sizeOf of a pinned block", x.sizeOf(4), 3);
        due("count(2) with a pinned block", x.count(2), 2);
    }

    private static void get() {
        RunHeap x = heapOf(40, 3, 7, -3);
        for (int bad : new int[] {MIN, -4, 0, 3, 5, 12, 16, 20, 40, 4096, MAX}) {
            noSuch("get(" + bad + ", 0)", () -> x.get(bad, 0));
            noSuch("get(" + bad + ", -1)", () -> x.get(bad, -1));
        }
        for (int bad : new int[] {MIN, -1, 7, 8, 4096, MAX}) {
            outOfBounds("get(8, " + bad + ")", () -> x.get(8, bad));
        }
        x.set(8, 0, MIN);
        x.set(8, 6, MAX);
        due("get(8, 0)", x.get(8, 0), MIN);
        due("get(8, 1)", x.get(8, 1), 0);
        due("get(8, 6)", x.get(8, 6), MAX);
        due("get(4, 2)", x.get(4, 2), 0);
        outOfBounds("get(4, 3)", () -> x.get(4, 3));
    }

    private static void set() {
        RunHeap x = heapOf(40, 3, 7, -3);
        for (int bad : new int[] {MIN, -4, 0, 3, 5, 12, 16, 20, 40, 4096, MAX}) {
            noSuch("set(" + bad + ", 0, 1)", () -> x.set(bad, 0, 1));
            noSuch("set(" + bad + ", 7, 1)", () -> x.set(bad, 7, 1));
        }
        for (int bad : new int[] {MIN, -1, 7, 8, 4096, MAX}) {
            outOfBounds("set(8, " + bad + ", 1)", () -> x.set(8, bad, 1));
        }
        due("set(8, 3, 5)", x.set(8, 3, 5), 0);
        due("set(8, 3, -6)", x.set(8, 3, -6), 5);
        due("set(8, 3, 0)", x.set(8, 3, 0), -6);
        due("set(4, 2, 1)", x.set(4, 2, 1), 0);
        due("set(8, 0, 2)", x.set(8, 0, 2), 0);
        due("set(8, 6, 3)", x.set(8, 6, 3), 0);
        due("get(4, 2)", x.get(4, 2), 1);
        due("get(8, 0)", x.get(8, 0), 2);
        due("get(8, 6)", x.get(8, 6), 3);
    }

    private static void sizeOf() {
        RunHeap x = heapOf(60, 1, 3, 4, 7, 8, -3);
        int[][] addressAndSize = {{4, 3}, {8, 3}, {12, 7}, {20, 7}, {28, 11}};
        for (int[] pair : addressAndSize) {
            due("sizeOf(" + pair[0] + ")", x.sizeOf(pair[0]), pair[1]);
        }
        for (int bad : new int[] {MIN, -4, 0, 3, 5, 16, 24, 40, 60, 4096, MAX}) {
            due("sizeOf(" + bad + ")", x.sizeOf(bad), -1);
        }
    }

    private static void largest() {
        RunHeap x = heapOf(60, -7, 3, -11, 3, -7, 19);
        due("largest()", x.largest(), 12);
        x.give(11);
        due("largest()", x.largest(), 8);
        x.give(7);
        due("largest()", x.largest(), 8);
        x.give(7);
        due("largest()", x.largest(), 0);
        x.free(40);
        due("largest()", x.largest(), 20);
    }

    private static void count() {
        RunHeap x = heapOf(60, -7, 3, -11, 3, -3, 3);
        int[] due = {4, 8 + 12 + 4 + 20, 3, 0, 3};
        for (int what = 0; what < due.length; what++) {
            due("count(" + what + ")", x.count(what), due[what]);
        }
        for (int bad : new int[] {MIN, -1, 5, 6, MAX}) {
            due("count(" + bad + ")", x.count(bad), -1);
        }
        x.advise(40);
        due("count(3)", x.count(3), 2);
        x.advise(0);
        due("count(3) behind a refused advise", x.count(3), 0);
        RunHeap full = heapOf(16, 11);
        int[] dueOfFull = {0, 0, 1, 0, 0};
        for (int what = 0; what < dueOfFull.length; what++) {
            due("count(" + what + ") of a full heap", full.count(what), dueOfFull[what]);
        }
        due("count(4) of a new heap", new RunHeap(16).count(4), 1);
        RunHeap last = heapOf(24, -3, 3, -3, 3, -3);
        int[] dueOfLast = {3, 12, 2, 0, 3};
        for (int what = 0; what < dueOfLast.length; what++) {
            due("count(" + what + ") with the last group free", last.count(what), dueOfLast[what]);
        }
        due("freeAt(2)", last.freeAt(2), 20);
        due("largest()", last.largest(), 4);
        due("branch(12, 1)", last.branch(12, 1), 20);
    }

    private static void depthOfChains() {
        RunHeap equal = new RunHeap(4096);
        for (int i = 0; i < 511; i++) {
            equal.giveAligned(3, 8);
        }
        due("count(4): 512 equal ones, each to the right of the last", equal.count(4), 512);
        RunHeap rising = heapOf(100, -3, 3, -7, 3, -11, 3, -15, 3, 35);
        due("count(4) rising", rising.count(4), 4);
        RunHeap falling = heapOf(100, -15, 3, -11, 3, -7, 3, -3, 3, 39);
        due("count(4) falling", falling.count(4), 4);
        RunHeap bushy = heapOf(100, -3, 3, -7, 3, -3, 3, -11, 3, -3, 3, -7, 3, -3, 27);
        due("count(0) bushy", bushy.count(0), 7);
        due("count(4) bushy", bushy.count(4), 3);
        RunHeap zigzag = heapOf(100, -15, 3, -3, 3, -7, 3, -11, 3, 35);
        due("count(4) zigzag", zigzag.count(4), 4);
    }

    private static void freeAt() {
        RunHeap x = heapOf(60, -7, 3, -11, 3, -7, 11);
        int[] due = {4, 16, 32, 52};
        for (int k = 0; k < due.length; k++) {
            due("freeAt(" + k + ")", x.freeAt(k), due[k]);
        }
        for (int bad : new int[] {MIN, -1, 4, 5, MAX}) {
            due("freeAt(" + bad + ")", x.freeAt(bad), -1);
        }
        due("freeAt(0) of a full heap", heapOf(16, 11).freeAt(0), -1);
    }

    private static void branch() {
        RunHeap x = heapOf(100, -3, 3, -7, 3, -7, 3, -11, 3, -3, 3, -11, 3, -3, 19);
        int[][] tree = {
            {4, 0, 0, 4}, {12, 4, 24, 8}, {24, 0, 0, 8}, {36, 12, 60, 12}, {52, 0, 0, 4}, {60, 52, 76, 12},
            {76, 0, 0, 4}};
        due("count(0)", x.count(0), tree.length);
        for (int[] node : tree) {
            for (int side = 0; side < 3; side++) {
                due("branch(" + node[0] + ", " + side + ")", x.branch(node[0], side), node[side + 1]);
            }
        }
        for (int bad : new int[] {MIN, -4, 0, 3, 5, 8, 16, 100, 4096, MAX}) {
            noSuch("branch(" + bad + ", 0)", () -> x.branch(bad, 0));
            noSuch("branch(" + bad + ", 2)", () -> x.branch(bad, 2));
            noSuch("branch(" + bad + ", 3)", () -> x.branch(bad, 3));
        }
        for (int bad : new int[] {MIN, -1, 3, 4, MAX}) {
            badArgument("branch(4, " + bad + ")", () -> x.branch(4, bad));
        }
    }

    private static void advise() {
        RunHeap x = heapOf(60, 3, -3, 7, 3, -11, 3, 3);
        due("advise(16): free already", x.advise(16), 0);
        due("window()", x.window(), 44);
        due("advise(12): the lowest of several", x.advise(12), 0);
        due("window()", x.window(), 24);
        due("advise(4)", x.advise(4), 0);
        due("window()", x.window(), 8);
        due("advise(1)", x.advise(1), 0);
        due("window()", x.window(), 8);
        due("advise(17): one victim", x.advise(17), 1);
        due("window()", x.window(), 40);
        due("advise(25): not 24, whose two victims find no place", x.advise(25), 2);
        due("window()", x.window(), 8);
        for (int bad : new int[] {MIN, -1, 0, 57, 4096, 4097, MAX}) {
            x.advise(4);
            due("advise(" + bad + ")", x.advise(bad), -1);
            due("window() behind a refused advise", x.window(), -1);
        }
        due("advise(56): none can be placed outside", x.advise(56), -1);
        due("nothing changed", x.count(0), 3);
        due("advise(12) of an empty heap", new RunHeap(16).advise(12), 0);
        due("advise(13) of an empty heap", new RunHeap(16).advise(13), -1);
        due("advise(1) of a full heap", heapOf(16, 11).advise(1), -1);
        RunHeap split = heapOf(40, 3, -3, 3, -3, 3, 3, 7);
        due("advise(5): a window with pinned blocks is none", split.advise(5), 1);
        due("window()", split.window(), 4);
        split.pin(4, true);
        due("advise(5)", split.advise(5), 1);
        due("window()", split.window(), 8);
        split.pin(12, true);
        due("advise(5)", split.advise(5), 1);
        due("window()", split.window(), 16);
        split.pin(20, true);
        due("advise(5): two victims, two free blocks", split.advise(5), -1);
    }

    /** The largest victim first, equal ones by addresses; what is left of a block is used again. */
    private static void adviseOrder() {
        RunHeap x = heapOf(100, -15, 27, 3, 7, 3, 7, 19);
        x.pin(20, true);
        x.pin(72, true);
        due("advise(21)", x.advise(21), 4);
        due("window()", x.window(), 48);
        dueMoves(x, new int[][] {{52, 4}, {64, 12}, {48, 92}, {60, 96}});
        due("advise(17)", x.advise(17), 3);
        due("window()", x.window(), 52);
        dueMoves(x, new int[][] {{52, 4}, {64, 12}, {60, 92}});
        RunHeap fits = heapOf(60, -3, 3, -11, 3, 3, 7, 3, 15);
        fits.pin(8, true);
        fits.pin(24, true);
        fits.pin(44, true);
        due("advise(12): a free block needs none to move", fits.advise(12), 0);
        due("advise(13): the smaller goes back to the lower", fits.advise(13), 3);
        due("window()", fits.window(), 28);
        dueMoves(fits, new int[][] {{32, 12}, {28, 4}, {40, 20}});
    }

    private static void adviseLimit() {
        RunHeap x = new RunHeap(4096);
        for (int i = 0; i < 128; i++) {
            x.giveAligned(3, 8);
        }
        due("count(2)", x.count(2), 128);
        due("advise(4) with 128 live blocks", x.advise(4), 0);
        due("advise(4092): all are victims, none is outside", x.advise(4092), -1);
        due("advise(3072)", x.advise(3072), 1);
        due("window()", x.window(), 1020);
        due("advise(1024)", x.advise(1024), 0);
        x.pin(1024, true);
        x.giveAligned(3066, 4);
        due("count(2)", x.count(2), 129);
        due("advise(4) with 129 live blocks", x.advise(4), -1);
        due("window()", x.window(), -1);
        x.free(8);
        due("advise(4) with 128 live blocks", x.advise(4), 0);
    }

    /** No window but that of all 128 live blocks can be cleared into what lies on both sides of it. */
    private static void adviseMostVictims() {
        RunHeap x = new RunHeap(1035);
        x.give(255);
        for (int i = 0; i < 128; i++) {
            x.give(i == 64 ? 7 : 3);
        }
        x.free(4);
        due("largest()", x.largest(), 260);
        due("advise(516)", x.advise(516), 128);
        due("window()", x.window(), 260);
        due("move(0, 0): the largest", x.move(0, 0), 516);
        due("move(0, 1)", x.move(0, 1), 4);
        due("move(62, 1): the last before the window", x.move(62, 1), 256);
        due("move(63, 1): the first behind it", x.move(63, 1), 776);
        due("move(127, 0)", x.move(127, 0), 772);
        due("move(127, 1)", x.move(127, 1), 1032);
        outOfBounds("move(128, 0)", () -> x.move(128, 0));
        due("apply()", x.apply(), 128);
        dueFree(x, new int[][] {{260, 516}});
        due("moved(772)", x.moved(772), 1032);
    }

    private static void window() {
        RunHeap x = heapOf(60, 3, -3, 7, 3, -11, 3, 3);
        due("window() without advice", x.window(), -1);
        x.advise(12);
        due("window() without victims", x.window(), 24);
        x.advise(20);
        due("window() with victims", x.window(), 40);
        due("count(3)", x.count(3), 1);
        x.apply();
        due("window() behind apply", x.window(), -1);
        x.advise(4);
        x.advise(1000);
        due("window() behind a refused advise", x.window(), -1);
    }

    private static void move() {
        RunHeap x = heapOf(60, 3, -3, 7, 3, -11, 3, 3);
        outOfBounds("move(0, 0) without advice", () -> x.move(0, 0));
        x.advise(12);
        outOfBounds("move(0, 0) without victims", () -> x.move(0, 0));
        outOfBounds("move(0, 2) without victims", () -> x.move(0, 2));
        due("advise(30)", x.advise(30), 3);
        dueMoves(x, new int[][] {{12, 44}, {4, 52}, {20, 56}});
        for (int bad : new int[] {MIN, -1, 3, 4, 128, MAX}) {
            outOfBounds("move(" + bad + ", 0)", () -> x.move(bad, 0));
            outOfBounds("move(" + bad + ", 2)", () -> x.move(bad, 2));
        }
        for (int bad : new int[] {MIN, -1, 2, MAX}) {
            badArgument("move(0, " + bad + ")", () -> x.move(0, bad));
        }
        x.free(4);
        outOfBounds("move(0, 0) behind free", () -> x.move(0, 0));
    }

    private static void apply() {
        RunHeap x = heapOf(60, 3, -3, 7, 3, -11, 3, 3);
        due("apply() without advice", x.apply(), -1);
        x.advise(16);
        due("apply() without victims", x.apply(), 0);
        due("apply() again", x.apply(), -1);
        for (int i = 0; i < 7; i++) {
            x.set(12, i, 10 + i);
        }
        x.set(4, 2, 42);
        x.advise(30);
        x.set(20, 0, 20);
        due("apply()", x.apply(), 3);
        due("count(3)", x.count(3), 0);
        due("the window is free", x.freeAt(0), 4);
        due("its words", x.branch(4, 2), 32);
        due("count(0)", x.count(0), 1);
        due("count(2)", x.count(2), 5);
        due("sizeOf(44)", x.sizeOf(44), 7);
        for (int i = 0; i < 7; i++) {
            due("get(44, " + i + ")", x.get(44, i), 10 + i);
        }
        due("get(52, 2)", x.get(52, 2), 42);
        due("get(56, 0)", x.get(56, 0), 20);
        due("sizeOf(12)", x.sizeOf(12), -1);
        due("apply() again", x.apply(), -1);
        x.give(31);
        due("words of the window are 0", x.get(4, 8 + 3), 0);
    }

    /** Free blocks that touch the window take its victims; what is freed joins what is left. */
    private static void applyBesideTheWindow() {
        RunHeap behind = heapOf(60, 7, -11, 3, -11, 19);
        behind.pin(4, true);
        behind.pin(40, true);
        behind.set(24, 2, 77);
        due("advise(16)", behind.advise(16), 1);
        due("window()", behind.window(), 12);
        due("move(0, 1): directly behind it", behind.move(0, 1), 28);
        due("apply()", behind.apply(), 1);
        due("get(28, 2)", behind.get(28, 2), 77);
        dueFree(behind, new int[][] {{12, 16}, {32, 8}});

        RunHeap before = heapOf(40, 3, -7, 7);
        before.pin(4, true);
        before.set(16, 6, 78);
        due("advise(24)", before.advise(24), 1);
        due("window()", before.window(), 16);
        due("move(0, 1): directly before it", before.move(0, 1), 8);
        due("apply()", before.apply(), 1);
        due("get(8, 6)", before.get(8, 6), 78);
        dueFree(before, new int[][] {{16, 24}});

        RunHeap joined = heapOf(64, -11, 3, -7, 3, 11, 3, 7, -3, 3);
        for (int address : new int[] {16, 28, 60}) {
            joined.pin(address, true);
        }
        joined.set(44, 1, 79);
        due("advise(24)", joined.advise(24), 3);
        dueMoves(joined, new int[][] {{32, 4}, {48, 20}, {44, 56}});
        due("apply(): the last of the window goes before the one in front of it", joined.apply(), 3);
        due("get(56, 1)", joined.get(56, 1), 79);
        dueFree(joined, new int[][] {{32, 24}});
    }

    private static void dueFree(RunHeap x, int[][] blocks) {
        due("count(0)", x.count(0), blocks.length);
        for (int k = 0; k < blocks.length; k++) {
            due("freeAt(" + k + ")", x.freeAt(k), blocks[k][0]);
            due("branch(" + blocks[k][0] + ", 2)", x.branch(blocks[k][0], 2), blocks[k][1]);
        }
    }

    private static void moved() {
        RunHeap x = heapOf(60, 3, -3, 7, 3, -11, 3, 3);
        due("moved(4) without apply", x.moved(4), -1);
        x.advise(30);
        due("moved(4) before apply", x.moved(4), -1);
        x.apply();
        due("moved(4)", x.moved(4), 52);
        due("moved(12)", x.moved(12), 44);
        due("moved(20)", x.moved(20), 56);
        for (int bad : new int[] {MIN, -4, 0, 3, 5, 8, 13, 36, 44, 60, 4096, MAX}) {
            due("moved(" + bad + ")", x.moved(bad), -1);
        }
        due("apply() without advice", x.apply(), -1);
        due("moved(4) behind a refused apply", x.moved(4), 52);
        x.free(52);
        x.advise(0);
        due("moved(4) behind other calls", x.moved(4), 52);
        due("advise(4)", x.advise(4), 0);
        due("moved(4) behind advise", x.moved(4), 52);
        due("apply()", x.apply(), 0);
        due("moved(4) behind an apply without moves", x.moved(4), -1);
        due("moved(20)", x.moved(20), -1);
    }
}
