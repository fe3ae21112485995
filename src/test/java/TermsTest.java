import java.util.Arrays;

/** Each sentence of the document's "Terms" that names a boundary, with a test of its own. */
public final class TermsTest extends Checks {

    public static void main(String[] args) {
        run("all memory is its own", TermsTest::ownMemory);
        run("each of 4, 8, 12, .. words, up to the last whole group of four", TermsTest::lastWholeGroup);
        run("its first word is the heap's own, its address is a multiple of 4", TermsTest::addresses);
        run("divided into blocks without a gap", TermsTest::noGap);
        run("what becomes free is one with its free neighbours: free", TermsTest::joinedByFree);
        run("what becomes free is one with its free neighbours: trim", TermsTest::joinedByTrim);
        run("what becomes free is one with its free neighbours: apply", TermsTest::joinedByApply);
        run("at first all is one free block", TermsTest::atFirst);
        run("the least number of words that is above w and a multiple of 4", TermsTest::blockFor);
        run("the top is the largest one, the lowest of several", TermsTest::topOfSeveral);
        run("to its left those that lie lower, to its right those that lie higher", TermsTest::sides);
        run("a window has none that is live and pinned", TermsTest::pinnedInWindow);
        run("up to the first block's end by which it has w words at least", TermsTest::windowEnds);
        run("the largest first, equal ones by their addresses", TermsTest::turns);
        run("as many words as it, or more, left, at its low end", TermsTest::asManyOrMore);
        run("the lowest free block outside the window", TermsTest::lowestOutside);
        run("what is left of that block stays there to be used", TermsTest::whatIsLeft);
        run("the fewest victims of those whose victims can all be placed", TermsTest::fewestVictims);
        run("the lowest of several windows", TermsTest::lowestWindow);
        run("advice is there also if there are no victims", TermsTest::thereWithoutVictims);
        run("until a block is given, freed, grown, trimmed, pinned, unpinned", TermsTest::untilChanged);
        run("also if that changes nothing", TermsTest::untilNothingChanged);
        run("or other advice is asked for", TermsTest::untilOtherAdvice);
        run("the advice is there through all other calls", TermsTest::stays);
        end("all terms hold");
    }

    /** One heap with blocks, marks, pins, moves and advice; others of its size get quite other calls. */
    private static void ownMemory() {
        RunHeap before = new RunHeap(59);
        RunHeap x = rowOf(4, -4, 8, 4, -12, 4, 4, -16);
        RunHeap behind = new RunHeap(59);
        dueRow("of one made before", before, -56);
        dueRow("of one made behind", behind, -56);
        mark(x, 12, 100);
        pin(x, 36);
        dueAdvice(x, 20, 1, 40);
        due("give(55)", behind.give(55), 4);
        dueMarks(behind, 4, 0, 0);
        mark(behind, 4, 500);
        dueNoAdvice("of another", behind);
        dueAdvice(rowOf(-4, 4, -4), 8, 1, 4);
        dueMarks(x, 12, 100, 7);
        due("window()", x.window(), 40);
        dueMoves(x, new int[][] {{40, 8}});
        due("apply()", x.apply(), 1);
        due("moved(40)", x.moved(40), 8);
        due("moved(40) of another", behind.moved(40), NONE);
        dueAdvice(before, 56, 0, 4);
        due("apply() of another", before.apply(), 0);
        due("moved(40) still", x.moved(40), 8);
        dueMarks(behind, 4, 500, 55);
        dueRow("in the end", x, 4, 4, 8, 4, -12, 4, -20);
        dueRow("of one made before, in the end", before, -56);
        dueRow("of one made behind, in the end", behind, 56);
    }

    private static int lastWholeGroupOf(int words) {
        int all = 0;
        while (3 + all + 4 <= words) {
            all += 4;
        }
        return all;
    }

    private static void lastWholeGroup() {
        for (int words = 16; words <= 4096; words += words == 40 ? 4088 - 40 : 1) {
            int all = lastWholeGroupOf(words);
            RunHeap x = new RunHeap(words);
            due("largest() of " + words, x.largest(), all);
            due("give(" + all + ") of " + words, x.give(all), 0);
            due("give(" + (all - 1) + ") of " + words, x.give(all - 1), 4);
            due("sizeOf(4) of " + words, x.sizeOf(4), all - 1);
            due("the last word of " + words, x.set(4, all - 2, 5), 0);
            due("the last word of " + words, x.get(4, all - 2), 5);
            outOfBounds("the one behind it", () -> x.get(4, all - 1));
            due("give(1) of " + words + " when full", x.give(1), 0);
        }
    }

    private static void addresses() {
        RunHeap x = new RunHeap(203);
        int next = 4;
        for (int words = 1; words <= 16; words++) {
            int at = x.give(words);
            due("give(" + words + ")", at, next);
            due("give(" + words + ") modulo 4", at % 4, 0);
            next += x.sizeOf(at) + 1;
        }
        RunHeap row = rowOf(4, 8, 4);
        mark(row, 4, 100);
        mark(row, 8, 200);
        mark(row, 16, 300);
        dueMarks(row, 4, 100, 3);
        dueMarks(row, 8, 200, 7);
        dueMarks(row, 16, 300, 3);
    }

    private static void noGap() {
        RunHeap x = new RunHeap(63);
        x.give(11);
        x.giveAligned(5, 32);
        dueRow("behind giveAligned", x, 12, -16, 8, -24);
        x.trim(4, 4);
        dueRow("behind trim", x, 8, -20, 8, -24);
        x.grow(32, 9);
        dueRow("behind grow", x, 8, -20, 12, -20);
        x.give(3);
        dueRow("behind give", x, 8, 4, -16, 12, -20);
        x.free(4);
        dueRow("behind free", x, -8, 4, -16, 12, -20);
        pin(x, 12);
        due("advise(32)", x.advise(32), 1);
        x.apply();
        dueRow("behind apply", x, -8, 4, 12, -36);
    }

    /** Each choice of six blocks, freed from below and from above. */
    private static void joinedByFree() {
        for (int chosen = 0; chosen < 64; chosen++) {
            for (int order = 0; order < 2; order++) {
                RunHeap x = rowOf(4, 4, 4, 4, 4, 4);
                for (int i = 0; i < 6; i++) {
                    int block = order == 0 ? i : 5 - i;
                    if ((chosen >> block & 1) == 1) {
                        due("free", x.free(4 + 4 * block), true);
                    }
                }
                dueRow("behind free", x, joined(chosen));
            }
        }
    }

    private static int[] joined(int chosen) {
        int[] row = new int[6];
        int blocks = 0;
        for (int i = 0; i < 6; i++) {
            boolean free = (chosen >> i & 1) == 1;
            if (free && blocks > 0 && row[blocks - 1] < 0) {
                row[blocks - 1] -= 4;
            } else {
                row[blocks] = free ? -4 : 4;
                blocks++;
            }
        }
        return Arrays.copyOf(row, blocks);
    }

    private static void joinedByTrim() {
        RunHeap freeBehind = rowOf(4, 12, -8, 4);
        due("trim(8, 3)", freeBehind.trim(8, 3), true);
        dueRow("with a free block behind", freeBehind, 4, 4, -16, 4);
        RunHeap liveBehind = rowOf(4, 12, 8, 4);
        due("trim(8, 3)", liveBehind.trim(8, 3), true);
        dueRow("with a live block behind", liveBehind, 4, 4, -8, 8, 4);
        RunHeap noneBehind = rowOf(4, 12);
        due("trim(8, 7)", noneBehind.trim(8, 7), true);
        dueRow("with none behind", noneBehind, 4, 8, -4);
    }

    private static void joinedByApply() {
        RunHeap inside = rowOf(-8, 4, -4, 4, -8, 4);
        pin(inside, 12, 32);
        due("advise(16)", inside.advise(16), 1);
        due("apply()", inside.apply(), 1);
        dueRow("with free ones in the window", inside, 4, -4, 4, -16, 4);
        RunHeap before = rowOf(4, -12, 8, -16);
        pin(before, 4);
        dueAdvice(before, 24, 1, 20);
        due("apply()", before.apply(), 1);
        dueRow("with what is left before the window", before, 4, 8, -28);
        RunHeap behind = rowOf(-8, 4, -16, 8, -12);
        pin(behind, 12);
        dueAdvice(behind, 24, 1, 16);
        due("apply()", behind.apply(), 1);
        dueRow("with the free block behind the window", behind, 8, 4, -36);
        RunHeap filled = rowOf(4, -8, 8, -16);
        pin(filled, 4);
        dueAdvice(filled, 24, 1, 16);
        due("apply()", filled.apply(), 1);
        dueRow("with nothing left before the window", filled, 4, 8, -24);
    }

    private static void atFirst() {
        dueRow("of a new heap of 16", new RunHeap(16), -12);
        dueRow("of a new heap of 60", new RunHeap(60), -56);
        RunHeap largest = new RunHeap(4096);
        due("count(0)", largest.count(0), 1);
        due("count(1)", largest.count(1), 4092);
        due("count(2)", largest.count(2), 0);
        due("count(4)", largest.count(4), 1);
        due("branch(4, 0)", largest.branch(4, 0), 0);
        due("branch(4, 1)", largest.branch(4, 1), 0);
        due("branch(4, 2)", largest.branch(4, 2), 4092);
    }

    private static void blockFor() {
        for (int words = 1; words <= 55; words++) {
            int least = words + 1;
            while (least % 4 != 0) {
                least++;
            }
            int[] row = least == 56 ? new int[] {56} : new int[] {least, least - 56};
            RunHeap given = new RunHeap(59);
            due("give(" + words + ")", given.give(words), 4);
            dueRow("behind give(" + words + ")", given, row);
            RunHeap aligned = new RunHeap(59);
            due("giveAligned(" + words + ", 4)", aligned.giveAligned(words, 4), 4);
            dueRow("behind giveAligned(" + words + ", 4)", aligned, row);
            RunHeap grown = rowOf(4, -52);
            due("grow(4, " + words + ")", grown.grow(4, words), true);
            dueRow("behind grow(4, " + words + ")", grown, row);
            RunHeap trimmed = rowOf(56);
            due("trim(4, " + words + ")", trimmed.trim(4, words), true);
            dueRow("behind trim(4, " + words + ")", trimmed, row);
        }
    }

    private static void dueTree(RunHeap x, int depth, int[][] nodes) {
        due("count(0)", x.count(0), nodes.length);
        due("count(4)", x.count(4), depth);
        for (int[] node : nodes) {
            due("branch(" + node[0] + ", 0)", x.branch(node[0], 0), node[1]);
            due("branch(" + node[0] + ", 1)", x.branch(node[0], 1), node[2]);
        }
    }

    private static void topOfSeveral() {
        RunHeap equal = rowOf(-4, 4, -4, 4, -4, 4);
        dueTree(equal, 3, new int[][] {{4, 0, 12}, {12, 0, 20}, {20, 0, 0}});
        RunHeap largestTwice = rowOf(-8, 4, -4, 4, -8, 4, -4);
        dueTree(largestTwice, 3, new int[][] {{4, 0, 24}, {16, 0, 0}, {24, 16, 36}, {36, 0, 0}});
        RunHeap twoThenLess = rowOf(-8, 4, -8, 4, -4);
        dueTree(twoThenLess, 3, new int[][] {{4, 0, 16}, {16, 0, 28}, {28, 0, 0}});
        RunHeap lessThenTwo = rowOf(-4, 4, -8, 4, -8);
        dueTree(lessThenTwo, 2, new int[][] {{4, 0, 0}, {12, 4, 24}, {24, 0, 0}});
        RunHeap equalOnTheLeft = rowOf(-4, 4, -4, 4, -8, 4, -4, 4, -4);
        dueTree(equalOnTheLeft, 3,
                new int[][] {{4, 0, 12}, {12, 0, 0}, {20, 4, 32}, {32, 0, 40}, {40, 0, 0}});
    }

    private static void sides() {
        RunHeap x = rowOf(-4, 4, -12, 4, -8, 4, -16, 4, -8, 4, -12, 4, -4);
        dueTree(x, 3, new int[][] {
            {4, 0, 0}, {12, 4, 28}, {28, 0, 0}, {40, 12, 72}, {60, 0, 0}, {72, 60, 88}, {88, 0, 0}});
        due("free(24): 12, 4 and 8 are one, the new top", x.free(24), true);
        dueTree(x, 4, new int[][] {
            {4, 0, 0}, {12, 4, 40}, {40, 0, 72}, {60, 0, 0}, {72, 60, 88}, {88, 0, 0}});
    }

    private static void pinnedInWindow() {
        RunHeap x = rowOf(-8, 4, -4, 4, -8, 4, -8);
        dueAdvice(x, 16, 1, 4);
        pin(x, 12);
        dueAdvice(x, 16, 1, 16);
        pin(x, 20);
        dueAdvice(x, 16, 1, 24);
        pin(x, 32);
        dueAdvice(x, 16, NONE, NONE);
        dueAdvice(x, 8, 0, 4);
        due("pin(20, false)", x.pin(20, false), true);
        dueAdvice(x, 16, 1, 16);
        due("free(32): a pinned one", x.free(32), true);
        dueAdvice(x, 16, 0, 24);
        dueAdvice(x, 21, 1, 16);
        dueMoves(x, new int[][] {{20, 4}});
    }

    private static void windowEnds() {
        RunHeap x = rowOf(-4, 4, -8, 4, -12, 4);
        int[][] wordsVictimsWindow = {
            {1, 0, 4}, {4, 0, 4}, {5, 0, 12}, {8, 0, 12}, {9, 0, 24}, {12, 0, 24}, {13, 1, 4}, {16, 1, 4},
            {17, 1, 12}, {24, 1, 12}, {25, NONE, NONE}, {36, NONE, NONE}, {37, NONE, NONE}};
        for (int[] due : wordsVictimsWindow) {
            dueAdvice(x, due[0], due[1], due[2]);
        }
        dueAdvice(new RunHeap(16), 12, 0, 4);
        dueAdvice(new RunHeap(16), 13, NONE, NONE);
        dueAdvice(new RunHeap(4096), 4092, 0, 4);
        dueAdvice(new RunHeap(4096), 4093, NONE, NONE);
        RunHeap full = rowOf(4, 8);
        dueAdvice(full, 1, NONE, NONE);
        RunHeap lastBlock = rowOf(-4, 8, 4);
        dueAdvice(lastBlock, 4, 0, 4);
        pin(lastBlock, 8);
        due("give(3)", lastBlock.give(3), 4);
        due("free(16)", lastBlock.free(16), true);
        dueAdvice(lastBlock, 3, 0, 16);
        dueAdvice(lastBlock, 5, NONE, NONE);
    }

    private static void turns() {
        RunHeap x = rowOf(4, 8, 4, 12, 8, 12, 4, -24, 4, -20);
        pin(x, 4, 52, 80);
        dueAdvice(x, 44, 5, 8);
        dueMoves(x, new int[][] {{20, 56}, {40, 68}, {8, 84}, {32, 92}, {16, 100}});
        RunHeap equal = rowOf(4, 4, 4, 4, 4, -8, 4, -8);
        pin(equal, 4, 20, 32);
        dueAdvice(equal, 12, 3, 8);
        dueMoves(equal, new int[][] {{8, 24}, {12, 28}, {16, 36}});
    }

    private static void asManyOrMore() {
        RunHeap exact = rowOf(-4, 4, -8, 4, 8, -4, 4);
        pin(exact, 8, 20, 36);
        dueAdvice(exact, 12, 1, 24);
        dueMoves(exact, new int[][] {{24, 12}});
        due("apply()", exact.apply(), 1);
        dueRow("behind apply", exact, -4, 4, 8, 4, -12, 4);
        RunHeap tooShort = rowOf(-4, 4, -8, 4, 12, -4, 4);
        pin(tooShort, 8, 20, 40);
        dueAdvice(tooShort, 16, NONE, NONE);
        dueAdvice(tooShort, 8, 0, 12);
        RunHeap more = rowOf(-4, 4, -16, 4, 12, -8, 4);
        pin(more, 8, 28, 52);
        dueAdvice(more, 20, 1, 32);
        dueMoves(more, new int[][] {{32, 12}});
        due("apply()", more.apply(), 1);
        dueRow("behind apply", more, -4, 4, 12, -4, 4, -20, 4);
    }

    private static void pinAllBut(RunHeap x, int spared, int end) {
        for (int address = 4; address < end; address += 4) {
            if (address != spared) {
                x.pin(address, true);
            }
        }
    }

    private static void lowestOutside() {
        int[][] rows = {
            {-8, 4, -4, 4, 4, -8, 4, -4, 4, -4}, {8, 4, -4, 4, 4, -8, 4, -4, 4, -4},
            {8, 4, 4, 4, 4, -8, 4, -4, 4, -4}, {8, 4, 4, 4, 4, -8, 4, 4, 4, -4}};
        int[] places = {4, 16, 40, 48};
        for (int i = 0; i < rows.length; i++) {
            RunHeap x = rowOf(rows[i]);
            pinAllBut(x, 24, 52);
            dueAdvice(x, 12, 1, 24);
            dueMoves(x, new int[][] {{24, places[i]}});
        }
        RunHeap nothingOutside = rowOf(8, 4, 4, 4, 4, -8, 4, 4, 4, 4);
        pinAllBut(nothingOutside, 24, 52);
        dueAdvice(nothingOutside, 12, NONE, NONE);
        dueAdvice(nothingOutside, 8, 0, 28);
    }

    private static void whatIsLeft() {
        RunHeap x = rowOf(-12, 4, -12, 4, 8, 4, 4, 8, 4);
        pin(x, 16, 32, 60);
        dueAdvice(x, 20, 4, 36);
        dueMoves(x, new int[][] {{36, 4}, {52, 20}, {44, 12}, {48, 28}});
        due("apply()", x.apply(), 4);
        dueRow("behind apply", x, 8, 4, 4, 8, 4, 4, -24, 4);
        RunHeap tooLittle = rowOf(-12, 4, -8, 4, 8, 4, 4, 8, 4);
        pin(tooLittle, 16, 28, 56);
        dueAdvice(tooLittle, 20, NONE, NONE);
    }

    private static void fewestVictims() {
        RunHeap fewer = rowOf(4, 4, -4, 8, -8, 4);
        dueAdvice(fewer, 12, 1, 12);
        dueMoves(fewer, new int[][] {{16, 24}});
        RunHeap none = rowOf(4, -4, 4, -8);
        dueAdvice(none, 8, 0, 16);
        RunHeap notPlaced = rowOf(12, -4, 4, 4, 4, -8, 4, -4);
        pin(notPlaced, 20, 40);
        dueAdvice(notPlaced, 16, 2, 24);
        dueMoves(notPlaced, new int[][] {{24, 16}, {28, 44}});
        pin(notPlaced, 28);
        dueAdvice(notPlaced, 16, NONE, NONE);
    }

    private static void lowestWindow() {
        RunHeap x = rowOf(4, -4, 4, -4, 4, -4);
        dueAdvice(x, 8, 1, 4);
        dueMoves(x, new int[][] {{4, 16}});
        pin(x, 4);
        dueAdvice(x, 8, 1, 8);
        dueMoves(x, new int[][] {{12, 16}});
        pin(x, 12);
        dueAdvice(x, 8, 1, 16);
        dueMoves(x, new int[][] {{20, 8}});
        RunHeap noVictims = rowOf(4, -8, 4, -12, 4, -8);
        dueAdvice(noVictims, 8, 0, 8);
        RunHeap lowerNotPlaced = rowOf(8, -4, 4, 4, -4);
        pin(lowerNotPlaced, 16);
        dueAdvice(lowerNotPlaced, 8, 1, 20);
        dueMoves(lowerNotPlaced, new int[][] {{20, 12}});
    }

    private static RunHeap advised(int victims) {
        RunHeap x = rowOf(4, -4, 8, 4, -12, 4, 4, -16);
        pin(x, 36);
        due("advise", x.advise(victims == 0 ? 12 : 20), victims);
        return x;
    }

    private static void ends(String call, Use use) {
        for (int victims = 0; victims < 2; victims++) {
            RunHeap x = advised(victims);
            use.on(x);
            dueNoAdvice("behind " + call, x);
        }
    }

    private static void endsNot(String call, Use use) {
        for (int victims = 0; victims < 2; victims++) {
            RunHeap x = advised(victims);
            use.on(x);
            due("window() behind " + call, x.window(), victims == 0 ? 24 : 40);
            dueMoves(x, victims == 0 ? new int[0][] : new int[][] {{40, 8}});
            due("apply() behind " + call, x.apply(), victims);
        }
    }

    private static void thereWithoutVictims() {
        RunHeap x = advised(0);
        due("window()", x.window(), 24);
        due("count(3)", x.count(3), 0);
        outOfBounds("move(0, 0)", () -> x.move(0, 0));
        due("window() still", x.window(), 24);
        due("apply()", x.apply(), 0);
        dueNoAdvice("behind apply", x);
        dueRow("behind apply", x, 4, -4, 8, 4, -12, 4, 4, -16);
    }

    private static void untilChanged() {
        ends("give(1)", x -> due("give(1)", x.give(1), 8));
        ends("give(15)", x -> due("give(15)", x.give(15), 44));
        ends("giveAligned(1, 32)", x -> due("giveAligned(1, 32)", x.giveAligned(1, 32), 32));
        ends("free(4)", x -> due("free(4)", x.free(4), true));
        ends("free(36), a pinned one", x -> due("free(36)", x.free(36), true));
        ends("free(40), the victim", x -> due("free(40)", x.free(40), true));
        ends("grow(4, 7)", x -> due("grow(4, 7)", x.grow(4, 7), true));
        ends("trim(12, 3)", x -> due("trim(12, 3)", x.trim(12, 3), true));
        ends("pin(4, true)", x -> due("pin(4, true)", x.pin(4, true), true));
        ends("pin(36, false)", x -> due("pin(36, false)", x.pin(36, false), true));
    }

    private static void untilNothingChanged() {
        ends("pin(36, true) again", x -> due("pin(36, true)", x.pin(36, true), true));
        ends("pin(4, false) of an unpinned one", x -> due("pin(4, false)", x.pin(4, false), true));
        ends("grow(12, 7), large enough", x -> due("grow(12, 7)", x.grow(12, 7), true));
        ends("grow(12, 1), large enough", x -> due("grow(12, 1)", x.grow(12, 1), true));
        ends("trim(12, 7), one already", x -> due("trim(12, 7)", x.trim(12, 7), true));
        ends("trim(12, 4), one already", x -> due("trim(12, 4)", x.trim(12, 4), true));
    }

    private static void untilOtherAdvice() {
        for (int refused : new int[] {MIN, -1, 0, 57, 4097, MAX}) {
            ends("advise(" + refused + ")", x -> due("advise", x.advise(refused), NONE));
        }
        RunHeap x = advised(1);
        dueAdvice(x, 12, 0, 24);
        due("count(3): no move of the advice before", x.count(3), 0);
        outOfBounds("move(0, 0): no move of the advice before", () -> x.move(0, 0));
        dueAdvice(x, 20, 1, 40);
        dueMoves(x, new int[][] {{40, 8}});
        dueAdvice(x, 20, 1, 40);
        dueMoves(x, new int[][] {{40, 8}});
    }

    private static void stays() {
        endsNot("set", x -> due("set(12, 6, 9)", x.set(12, 6, 9), 0));
        endsNot("get", x -> due("get(12, 6)", x.get(12, 6), 0));
        endsNot("sizeOf", x -> due("sizeOf(12)", x.sizeOf(12), 7));
        endsNot("largest", x -> due("largest()", x.largest(), 16));
        for (int what = -1; what <= 5; what++) {
            int asked = what;
            endsNot("count(" + what + ")", x -> x.count(asked));
        }
        endsNot("freeAt", x -> due("freeAt(0)", x.freeAt(0), 8));
        endsNot("branch", x -> due("branch(8, 1)", x.branch(8, 1), 0));
        endsNot("window", x -> x.window());
        endsNot("moved", x -> due("moved(40)", x.moved(40), NONE));
    }
}
