/** Each sentence of the promises 1 to 19 that names a boundary, with a test of its own. */
public final class BoundaryTest extends Checks {

    /** No block of any heap can have one of these addresses. */
    private static final int[] NEVER = {
        MIN, MIN + 4, -4096, -4, -1, 0, 1, 2, 3, 5, 6, 7, 4093, 4095, 4096, 4100, 1 << 30, MAX - 3, MAX};
    private static final int[] BELOW_1 = {MIN, MIN + 1, MIN + 3, -1024, -4, -1, 0};

    public static void main(String[] args) {
        run("1: 16 .. 4096, what is less or more is the nearest", BoundaryTest::nearestSize);

        run("2: the lowest free block that is large enough", BoundaryTest::giveLowest);
        run("2: from its low end", BoundaryTest::giveFromLowEnd);
        run("2: 0 if there is none", BoundaryTest::giveNone);
        run("2: 0 if words is below 1", BoundaryTest::giveBelow1);
        run("2: all words of its payload are 0", BoundaryTest::giveZeros);

        run("3: the lowest address that is a multiple of a", BoundaryTest::alignedLowest);
        run("3: wherever in a free block it is", BoundaryTest::alignedWherever);
        run("3: 0 if there is none", BoundaryTest::alignedNone);
        run("3: 0 if words is below 1", BoundaryTest::alignedBelow1);
        run("3: 0 if a is not 4, 8, 16, .. 1024", BoundaryTest::alignedWrongA);
        run("3: as give, all words are 0", BoundaryTest::alignedZeros);

        run("4: the block is free: true", BoundaryTest::freeTrue);
        run("4: false if none that is live has that address", BoundaryTest::freeFalse);

        run("5: a block is one for so many words, if it is smaller", BoundaryTest::growSmaller);
        run("5: what comes to its payload is 0", BoundaryTest::growZeros);
        run("5: false if none that is live has that address", BoundaryTest::growNoBlock);
        run("5: false if words is below 1", BoundaryTest::growBelow1);
        run("5: false if the free block directly behind it is too small", BoundaryTest::growTooSmall);
        run("5: false if there is no free block directly behind it", BoundaryTest::growNoneBehind);
        run("5: one that is large enough stays as it is: true", BoundaryTest::growLargeEnough);

        run("6: what is behind them is free", BoundaryTest::trimTail);
        run("6: true also if it is one already", BoundaryTest::trimOneAlready);
        run("6: false if none that is live has that address", BoundaryTest::trimNoBlock);
        run("6: false if words is below 1", BoundaryTest::trimBelow1);
        run("6: false if it would be larger", BoundaryTest::trimLarger);

        run("7: a block is pinned, or not: true", BoundaryTest::pinTrue);
        run("7: false if none that is live has that address", BoundaryTest::pinFalse);

        run("8: word i of the payload, from 0 on", BoundaryTest::getWords);
        run("8: NoSuchElementException", BoundaryTest::getNoBlock);
        run("8: IndexOutOfBoundsException if its payload has no such word", BoundaryTest::getNoWord);

        run("9: word i is v: the one before", BoundaryTest::setWords);
        run("9: NoSuchElementException", BoundaryTest::setNoBlock);
        run("9: IndexOutOfBoundsException if its payload has no such word", BoundaryTest::setNoWord);

        run("10: NONE if no live block has that address", BoundaryTest::sizeOfNone);
        run("11: 0 if there is none", BoundaryTest::largestNone);

        run("12: what 0 to 4", BoundaryTest::countEach);
        run("12: the top is 1 deep, 0 without one", BoundaryTest::depths);
        run("12: NONE for another what", BoundaryTest::countOther);

        run("13: from 0, the lowest, on", BoundaryTest::freeAtEach);
        run("13: NONE if there is none", BoundaryTest::freeAtNone);

        run("14: 0 if nothing is on that side", BoundaryTest::branchNothing);
        run("14: NoSuchElementException if no free block has that address", BoundaryTest::branchNoBlock);
        run("14: IllegalArgumentException for another side", BoundaryTest::branchOtherSide);

        run("15: NONE if there is no such window", BoundaryTest::adviseNoWindow);
        run("15: NONE if there is no such window any more", BoundaryTest::adviseFewerBlocks);
        run("15: NONE if words is below 1", BoundaryTest::adviseBelow1);
        run("15: NONE if there are more than 128 live blocks", BoundaryTest::adviseMoreThan128);

        run("16: the address of the lowest block", BoundaryTest::windowLowest);
        run("16: NONE if no advice is there", BoundaryTest::windowNone);

        run("17: of move i, from 0 on", BoundaryTest::moveEach);
        run("17: IndexOutOfBoundsException if there is none such", BoundaryTest::moveNone);
        run("17: IllegalArgumentException for another what", BoundaryTest::moveOther);

        run("18: each block with what is in its payload", BoundaryTest::applyPayloads);
        run("18: NONE if no advice is there", BoundaryTest::applyNone);
        run("18: then none is there", BoundaryTest::applyEnds);

        run("19: where the block came by the latest apply", BoundaryTest::movedLatest);
        run("19: NONE if that moved none from there", BoundaryTest::movedNone);
        end("all boundaries hold");
    }

    private static void nearestSize() {
        for (int less : new int[] {MIN, MIN + 1, -4096, -16, -1, 0, 1, 3, 4, 12, 15, 16}) {
            RunHeap x = new RunHeap(less);
            dueRow("of a heap of " + less, x, -12);
            due("give(12) of " + less, x.give(12), 0);
            due("give(11) of " + less, x.give(11), 4);
            due("sizeOf(16) of " + less, x.sizeOf(16), NONE);
        }
        for (int more : new int[] {4096, 4097, 4099, 4100, 8192, 1 << 20, MAX - 1, MAX}) {
            RunHeap x = new RunHeap(more);
            due("largest() of " + more, x.largest(), 4092);
            due("giveAligned(1023, 1024) of " + more, x.giveAligned(1023, 1024), 1024);
            due("giveAligned(2047, 1024) of " + more, x.giveAligned(2047, 1024), 2048);
            due("freeAt(0) of " + more, x.freeAt(0), 4);
            due("freeAt(1) of " + more, x.freeAt(1), NONE);
            due("give(1020) of " + more, x.give(1020), 0);
            due("give(1019) of " + more, x.give(1019), 4);
            due("largest() of a full " + more, x.largest(), 0);
            due("sizeOf(4092) of " + more, x.sizeOf(4092), NONE);
        }
        due("largest() of 17", new RunHeap(17).largest(), 12);
        due("largest() of 19", new RunHeap(19).largest(), 16);
        due("largest() of 4094", new RunHeap(4094).largest(), 4088);
        due("largest() of 4095", new RunHeap(4095).largest(), 4092);
    }

    private static void giveLowest() {
        RunHeap x = rowOf(-4, 4, -12, 4, -8, 4, -16, 4);
        due("give(7): 12 words are lower than 8", x.give(7), 12);
        due("give(7): 4 left there are too few", x.give(7), 28);
        due("give(3): the lowest of equal ones", x.give(3), 4);
        due("give(3): what was left", x.give(3), 20);
        due("give(3)", x.give(3), 40);
        due("give(11): all of the rest", x.give(11), 44);
        dueRow("in the end", x, 4, 4, 8, 4, 4, 8, 4, 4, 12, 4);
    }

    private static void giveFromLowEnd() {
        RunHeap x = rowOf(4, -20, 4);
        due("give(4)", x.give(4), 8);
        dueRow("behind give(4)", x, 4, 8, -12, 4);
        due("give(7)", x.give(7), 16);
        dueRow("behind give(7)", x, 4, 8, 8, -4, 4);
        due("give(3)", x.give(3), 24);
        dueRow("when full", x, 4, 8, 8, 4, 4);
    }

    private static void giveNone() {
        RunHeap x = rowOf(-8, 4, -12, 4, -8);
        for (int words : new int[] {12, 13, 16, 27, 28, 36, 4092, 4095, 4096, 1 << 30, MAX - 4, MAX - 3, MAX}) {
            due("give(" + words + ")", x.give(words), 0);
        }
        dueRow("behind all of them", x, -8, 4, -12, 4, -8);
        due("give(11): just large enough", x.give(11), 16);
        due("give(8)", x.give(8), 0);
        due("give(7)", x.give(7), 4);
        due("give(7)", x.give(7), 32);
        for (int words : new int[] {1, 3, MAX}) {
            due("give(" + words + ") of a full heap", x.give(words), 0);
        }
        dueRow("of a full heap", x, 8, 4, 12, 4, 8);
    }

    private static void giveBelow1() {
        RunHeap x = rowOf(4, -20, 4);
        for (int words : BELOW_1) {
            due("give(" + words + ")", x.give(words), 0);
        }
        dueRow("behind all of them", x, 4, -20, 4);
        due("give(1)", x.give(1), 8);
    }

    /** Words that were in a block that has been freed, trimmed or moved away. */
    private static void giveZeros() {
        RunHeap freed = rowOf(28);
        mark(freed, 4, 100);
        due("free(4)", freed.free(4), true);
        for (int words : new int[] {3, 1, 7, 11}) {
            dueMarks(freed, freed.give(words), 0, 0);
        }
        dueRow("when full", freed, 4, 4, 8, 12);
        RunHeap trimmed = rowOf(16);
        mark(trimmed, 4, 100);
        due("trim(4, 3)", trimmed.trim(4, 3), true);
        due("give(11)", trimmed.give(11), 8);
        dueMarks(trimmed, 8, 0, 0);
        dueMarks(trimmed, 4, 100, 3);
        RunHeap movedAway = rowOf(-12, 4, 8, -12);
        pin(movedAway, 16);
        mark(movedAway, 20, 100);
        dueAdvice(movedAway, 20, 1, 20);
        due("apply()", movedAway.apply(), 1);
        dueRow("behind apply", movedAway, 8, -4, 4, -20);
        due("give(19)", movedAway.give(19), 20);
        dueMarks(movedAway, 20, 0, 0);
        dueMarks(movedAway, 4, 100, 7);
    }

    private static void alignedLowest() {
        for (int a = 4; a <= 1024; a *= 2) {
            due("giveAligned(1, " + a + ") of a new heap", new RunHeap(4096).giveAligned(1, a), a);
        }
        RunHeap x = rowOf(4, -4, 4, -16, 4, -16);
        due("giveAligned(3, 16)", x.giveAligned(3, 16), 16);
        due("giveAligned(3, 16): 32 is live, 48 is free", x.giveAligned(3, 16), 48);
        due("giveAligned(3, 8): 8 is the lowest", x.giveAligned(3, 8), 8);
        due("giveAligned(3, 8)", x.giveAligned(3, 8), 24);
        due("giveAligned(3, 4)", x.giveAligned(3, 4), 20);
        dueRow("in the end", x, 4, 4, 4, 4, 4, 4, -4, 4, -12, 4);
    }

    private static void alignedWherever() {
        RunHeap inside = rowOf(4, -40, 4);
        due("giveAligned(3, 32)", inside.giveAligned(3, 32), 32);
        dueRow("inside", inside, 4, -24, 4, -12, 4);
        RunHeap atItsStart = rowOf(4, -40, 4);
        due("giveAligned(7, 8)", atItsStart.giveAligned(7, 8), 8);
        dueRow("at its start", atItsStart, 4, 8, -32, 4);
        RunHeap atItsEnd = rowOf(4, -40, 4);
        due("giveAligned(15, 32)", atItsEnd.giveAligned(15, 32), 32);
        dueRow("at its end", atItsEnd, 4, -24, 16, 4);
        RunHeap allOfIt = rowOf(4, -40, 4);
        due("giveAligned(39, 8)", allOfIt.giveAligned(39, 8), 8);
        dueRow("all of it", allOfIt, 4, 40, 4);
        RunHeap inTheNext = rowOf(-20, 4, -40);
        due("giveAligned(11, 16): 16 has 8 words left, 32 is free", inTheNext.giveAligned(11, 16), 32);
        dueRow("in the next", inTheNext, -20, 4, -4, 12, -24);
    }

    private static void alignedNone() {
        RunHeap x = rowOf(4, -40, 4);
        due("giveAligned(16, 32): 16 words from there on", x.giveAligned(16, 32), 0);
        due("giveAligned(40, 8): 40 words from there on", x.giveAligned(40, 8), 0);
        due("giveAligned(40, 4)", x.giveAligned(40, 4), 0);
        due("giveAligned(1, 64): behind the last", x.giveAligned(1, 64), 0);
        due("giveAligned(1, 1024)", x.giveAligned(1, 1024), 0);
        for (int words : new int[] {4092, 1 << 30, MAX - 3, MAX}) {
            due("giveAligned(" + words + ", 4)", x.giveAligned(words, 4), 0);
            due("giveAligned(" + words + ", 8)", x.giveAligned(words, 8), 0);
            due("giveAligned(" + words + ", 1024)", x.giveAligned(words, 1024), 0);
        }
        dueRow("behind all of them", x, 4, -40, 4);
        due("giveAligned(1, 16) behind the last of 16 words", new RunHeap(16).giveAligned(1, 16), 0);
        due("giveAligned(3071, 1024) up to the end", new RunHeap(4096).giveAligned(3071, 1024), 1024);
        due("giveAligned(3072, 1024)", new RunHeap(4096).giveAligned(3072, 1024), 0);
        due("giveAligned(3, 4) of a full heap", rowOf(4, 8).giveAligned(3, 4), 0);
    }

    private static void alignedBelow1() {
        RunHeap x = rowOf(4, -40, 4);
        for (int words : BELOW_1) {
            for (int a = 4; a <= 1024; a *= 2) {
                due("giveAligned(" + words + ", " + a + ")", x.giveAligned(words, a), 0);
            }
            due("giveAligned(" + words + ", 3)", x.giveAligned(words, 3), 0);
        }
        dueRow("behind all of them", x, 4, -40, 4);
    }

    private static boolean isOneOfTheNine(int a) {
        for (int right = 4; right <= 1024; right *= 2) {
            if (right == a) {
                return true;
            }
        }
        return false;
    }

    private static void dueA(int a) {
        RunHeap x = new RunHeap(4096);
        due("giveAligned(1, " + a + ")", x.giveAligned(1, a), isOneOfTheNine(a) ? a : 0);
        due("count(2) behind giveAligned(1, " + a + ")", x.count(2), isOneOfTheNine(a) ? 1 : 0);
    }

    private static void alignedWrongA() {
        for (int a = -1030; a <= 4200; a++) {
            dueA(a);
        }
        for (int shift = 0; shift < 32; shift++) {
            dueA(1 << shift);
            dueA(-(1 << shift));
            dueA((1 << shift) - 1);
        }
    }

    private static void alignedZeros() {
        RunHeap x = rowOf(40);
        mark(x, 4, 100);
        due("free(4)", x.free(4), true);
        due("giveAligned(11, 16)", x.giveAligned(11, 16), 16);
        dueMarks(x, 16, 0, 0);
        due("giveAligned(7, 4)", x.giveAligned(7, 4), 4);
        dueMarks(x, 4, 0, 0);
        due("giveAligned(3, 32)", x.giveAligned(3, 32), 32);
        dueMarks(x, 32, 0, 0);
    }

    private static void freeTrue() {
        RunHeap x = rowOf(4, 8, 4);
        pin(x, 8);
        due("free(8), a pinned one", x.free(8), true);
        dueRow("behind free(8)", x, 4, -8, 4);
        due("free(16), the last", x.free(16), true);
        dueRow("behind free(16)", x, 4, -12);
        due("free(4), the first", x.free(4), true);
        dueRow("behind free(4)", x, -16);
    }

    /** Never an address, of a free block, inside a block, behind the last, freed already. */
    private static void freeFalse() {
        RunHeap x = rowOf(8, -8, 4, 8);
        for (int address : NEVER) {
            due("free(" + address + ")", x.free(address), false);
        }
        for (int address : new int[] {8, 12, 16, 28, 32, 36}) {
            due("free(" + address + ")", x.free(address), false);
        }
        dueRow("behind all of them", x, 8, -8, 4, 8);
        due("free(20)", x.free(20), true);
        due("free(20) again", x.free(20), false);
        dueRow("behind free(20)", x, 8, -12, 8);
        due("free(4) of a new heap", new RunHeap(16).free(4), false);
        due("free(4096) of the largest heap", new RunHeap(4096).free(4096), false);
    }

    private static void growSmaller() {
        RunHeap x = rowOf(4, -12, 4, -4);
        due("grow(4, 4)", x.grow(4, 4), true);
        dueRow("behind grow(4, 4)", x, 8, -8, 4, -4);
        due("grow(4, 8)", x.grow(4, 8), true);
        dueRow("behind grow(4, 8)", x, 12, -4, 4, -4);
        due("grow(4, 15): all that is behind it", x.grow(4, 15), true);
        dueRow("behind grow(4, 15)", x, 16, 4, -4);
        due("grow(20, 7): up to the end", x.grow(20, 7), true);
        dueRow("behind grow(20, 7)", x, 16, 8);
    }

    private static void growZeros() {
        RunHeap freed = rowOf(4, 8, 8);
        mark(freed, 4, 100);
        mark(freed, 8, 200);
        mark(freed, 16, 300);
        due("free(8)", freed.free(8), true);
        due("grow(4, 7)", freed.grow(4, 7), true);
        dueMarks(freed, 4, 100, 3);
        due("grow(4, 11)", freed.grow(4, 11), true);
        dueMarks(freed, 4, 100, 3);
        dueMarks(freed, 16, 300, 7);
        RunHeap trimmed = rowOf(16, 4);
        mark(trimmed, 4, 100);
        due("trim(4, 4)", trimmed.trim(4, 4), true);
        due("grow(4, 15)", trimmed.grow(4, 15), true);
        dueMarks(trimmed, 4, 100, 7);
        RunHeap movedAway = rowOf(-8, 4, 8, -4);
        mark(movedAway, 12, 100);
        mark(movedAway, 16, 200);
        pin(movedAway, 12);
        dueAdvice(movedAway, 12, 1, 16);
        due("apply()", movedAway.apply(), 1);
        due("grow(12, 15)", movedAway.grow(12, 15), true);
        dueMarks(movedAway, 12, 100, 3);
        dueMarks(movedAway, 4, 200, 7);
    }

    private static void growNoBlock() {
        RunHeap x = rowOf(8, -8, 4, -8);
        for (int address : NEVER) {
            due("grow(" + address + ", 1)", x.grow(address, 1), false);
            due("grow(" + address + ", 9)", x.grow(address, 9), false);
        }
        for (int address : new int[] {8, 12, 16, 24, 28, 32, 36}) {
            due("grow(" + address + ", 1)", x.grow(address, 1), false);
            due("grow(" + address + ", 5)", x.grow(address, 5), false);
        }
        dueRow("behind all of them", x, 8, -8, 4, -8);
    }

    private static void growBelow1() {
        RunHeap x = rowOf(8, -8, 4);
        for (int words : BELOW_1) {
            due("grow(4, " + words + ")", x.grow(4, words), false);
            due("grow(20, " + words + ")", x.grow(20, words), false);
        }
        dueRow("behind all of them", x, 8, -8, 4);
        due("grow(4, 1)", x.grow(4, 1), true);
    }

    private static void growTooSmall() {
        RunHeap x = rowOf(4, -8, 4, -20, 4, -4);
        for (int words : new int[] {12, 13, 16, 40, 4092, 1 << 30, MAX - 3, MAX}) {
            due("grow(4, " + words + ")", x.grow(4, words), false);
        }
        due("grow(40, 8): at the end", x.grow(40, 8), false);
        dueRow("behind all of them", x, 4, -8, 4, -20, 4, -4);
        due("grow(4, 11)", x.grow(4, 11), true);
        due("grow(40, 7)", x.grow(40, 7), true);
        dueRow("behind those that fit", x, 12, 4, -20, 8);
    }

    private static void growNoneBehind() {
        RunHeap x = rowOf(-8, 4, 4, -8, 4);
        for (int words : new int[] {4, 7, 8, MAX}) {
            due("grow(12, " + words + ") before a live block", x.grow(12, words), false);
            due("grow(28, " + words + ") of the last", x.grow(28, words), false);
        }
        dueRow("behind all of them", x, -8, 4, 4, -8, 4);
        RunHeap full = new RunHeap(4096);
        due("give(4091)", full.give(4091), 4);
        due("grow(4, 4092)", full.grow(4, 4092), false);
        due("sizeOf(4)", full.sizeOf(4), 4091);
    }

    private static void growLargeEnough() {
        RunHeap x = rowOf(12, -8, 8);
        mark(x, 4, 100);
        for (int words : new int[] {1, 3, 4, 7, 8, 11}) {
            due("grow(4, " + words + ")", x.grow(4, words), true);
        }
        for (int words : new int[] {1, 4, 7}) {
            due("grow(24, " + words + ") of the last", x.grow(24, words), true);
        }
        dueRow("behind all of them", x, 12, -8, 8);
        dueMarks(x, 4, 100, 11);
    }

    private static void trimTail() {
        RunHeap x = rowOf(16, 8, -4);
        mark(x, 4, 100);
        pin(x, 4);
        due("trim(4, 11)", x.trim(4, 11), true);
        dueRow("behind trim(4, 11)", x, 12, -4, 8, -4);
        due("trim(4, 4)", x.trim(4, 4), true);
        dueRow("behind trim(4, 4)", x, 8, -8, 8, -4);
        due("trim(4, 1)", x.trim(4, 1), true);
        dueRow("behind trim(4, 1)", x, 4, -12, 8, -4);
        due("trim(20, 3)", x.trim(20, 3), true);
        dueRow("behind trim(20, 3)", x, 4, -12, 4, -8);
        dueMarks(x, 4, 100, 3);
        due("advise(16): 4 is still pinned", x.advise(16), 1);
        due("window()", x.window(), 8);
    }

    private static void trimOneAlready() {
        RunHeap x = rowOf(12, -8, 4, 8);
        mark(x, 4, 100);
        for (int words : new int[] {8, 9, 10, 11}) {
            due("trim(4, " + words + ")", x.trim(4, words), true);
        }
        for (int words : new int[] {1, 2, 3}) {
            due("trim(24, " + words + ")", x.trim(24, words), true);
        }
        for (int words : new int[] {4, 5, 6, 7}) {
            due("trim(28, " + words + ") of the last", x.trim(28, words), true);
        }
        dueRow("behind all of them", x, 12, -8, 4, 8);
        dueMarks(x, 4, 100, 11);
    }

    private static void trimNoBlock() {
        RunHeap x = rowOf(8, -8, 4, -8);
        for (int address : NEVER) {
            due("trim(" + address + ", 1)", x.trim(address, 1), false);
        }
        for (int address : new int[] {8, 12, 16, 24, 28, 32, 36}) {
            due("trim(" + address + ", 1)", x.trim(address, 1), false);
        }
        dueRow("behind all of them", x, 8, -8, 4, -8);
    }

    private static void trimBelow1() {
        RunHeap x = rowOf(8, -8, 4);
        for (int words : BELOW_1) {
            due("trim(4, " + words + ")", x.trim(4, words), false);
            due("trim(20, " + words + ")", x.trim(20, words), false);
        }
        dueRow("behind all of them", x, 8, -8, 4);
        due("trim(4, 1)", x.trim(4, 1), true);
        dueRow("behind trim(4, 1)", x, 4, -12, 4);
    }

    private static void trimLarger() {
        RunHeap x = rowOf(8, -8, 4);
        for (int words : new int[] {8, 9, 11, 16, 4092, 1 << 30, MAX - 3, MAX}) {
            due("trim(4, " + words + ")", x.trim(4, words), false);
            due("trim(20, " + words + ")", x.trim(20, words), false);
        }
        due("trim(20, 4)", x.trim(20, 4), false);
        dueRow("behind all of them", x, 8, -8, 4);
    }

    private static void pinTrue() {
        RunHeap x = rowOf(-4, 4, -4);
        dueAdvice(x, 8, 1, 4);
        due("pin(8, true)", x.pin(8, true), true);
        dueAdvice(x, 8, NONE, NONE);
        due("pin(8, true) again", x.pin(8, true), true);
        dueAdvice(x, 8, NONE, NONE);
        due("pin(8, false): once is enough", x.pin(8, false), true);
        dueAdvice(x, 8, 1, 4);
        due("pin(8, false) again", x.pin(8, false), true);
        dueAdvice(x, 8, 1, 4);
        pin(x, 8);
        dueRow("a pinned block is live", x, -4, 4, -4);
        due("grow(8, 7) of a pinned one", x.grow(8, 7), true);
        dueAdvice(x, 8, NONE, NONE);
        due("trim(8, 3) of a pinned one", x.trim(8, 3), true);
        dueAdvice(x, 8, NONE, NONE);
        due("free(8) of a pinned one", x.free(8), true);
        due("give(3)", x.give(3), 4);
        due("give(3) where it was", x.give(3), 8);
        due("free(4)", x.free(4), true);
        dueAdvice(x, 8, 1, 4);
    }

    private static void pinFalse() {
        RunHeap x = rowOf(-8, 8, -12);
        for (int address : NEVER) {
            due("pin(" + address + ", true)", x.pin(address, true), false);
            due("pin(" + address + ", false)", x.pin(address, false), false);
        }
        for (int address : new int[] {4, 8, 16, 20, 24, 28, 32}) {
            due("pin(" + address + ", true)", x.pin(address, true), false);
            due("pin(" + address + ", false)", x.pin(address, false), false);
        }
        dueRow("behind all of them", x, -8, 8, -12);
        dueAdvice(x, 20, 1, 12);
        dueAdvice(x, 12, 0, 20);
    }

    private static void getWords() {
        RunHeap x = rowOf(4, 8, 4);
        for (int address : new int[] {4, 8, 16}) {
            dueMarks(x, address, 0, 0);
        }
        mark(x, 4, MAX - 2);
        mark(x, 8, 200);
        mark(x, 16, MIN);
        due("get(4, 0)", x.get(4, 0), MAX - 2);
        due("get(4, 2)", x.get(4, 2), MAX);
        due("get(8, 0)", x.get(8, 0), 200);
        due("get(8, 6)", x.get(8, 6), 206);
        due("get(16, 0)", x.get(16, 0), MIN);
        due("get(16, 2)", x.get(16, 2), MIN + 2);
    }

    private static void getNoBlock() {
        RunHeap x = rowOf(8, -8, 4, 4);
        for (int address : NEVER) {
            noSuch("get(" + address + ", 0)", () -> x.get(address, 0));
            noSuch("get(" + address + ", -1): no block comes first", () -> x.get(address, -1));
        }
        for (int address : new int[] {8, 12, 16, 28}) {
            noSuch("get(" + address + ", 0)", () -> x.get(address, 0));
            noSuch("get(" + address + ", " + MIN + "): no block comes first", () -> x.get(address, MIN));
            noSuch("get(" + address + ", " + MAX + "): no block comes first", () -> x.get(address, MAX));
        }
        due("free(20)", x.free(20), true);
        noSuch("get(20, 0) behind free", () -> x.get(20, 0));
    }

    private static void getNoWord() {
        RunHeap x = rowOf(4, 8, -8, 4);
        for (int i : new int[] {MIN, MIN + 4, -8, -4, -1, 7, 8, 9, 4096, MAX - 8, MAX}) {
            outOfBounds("get(8, " + i + ")", () -> x.get(8, i));
            outOfBounds("get(24, " + i + ") of the last", () -> x.get(24, i));
        }
        outOfBounds("get(24, 3) of the last", () -> x.get(24, 3));
        due("grow(8, 8)", x.grow(8, 8), true);
        due("get(8, 10) behind grow", x.get(8, 10), 0);
        outOfBounds("get(8, 11) behind grow", () -> x.get(8, 11));
        due("trim(8, 3)", x.trim(8, 3), true);
        due("get(8, 2) behind trim", x.get(8, 2), 0);
        outOfBounds("get(8, 3) behind trim", () -> x.get(8, 3));
    }

    private static void setWords() {
        RunHeap x = rowOf(4, 8, 4);
        for (int i = 0; i < 7; i++) {
            due("set(8, " + i + ", 5)", x.set(8, i, 5), 0);
            due("set(8, " + i + ", MIN)", x.set(8, i, MIN), 5);
            due("set(8, " + i + ", MAX)", x.set(8, i, MAX), MIN);
            due("set(8, " + i + ", " + i + ")", x.set(8, i, i), MAX);
        }
        dueMarks(x, 8, 0, 7);
        dueMarks(x, 4, 0, 0);
        dueMarks(x, 16, 0, 0);
        dueRow("behind all of them", x, 4, 8, 4);
    }

    private static void setNoBlock() {
        RunHeap x = rowOf(8, -8, 4, 4);
        for (int address : NEVER) {
            noSuch("set(" + address + ", 0, 9)", () -> x.set(address, 0, 9));
            noSuch("set(" + address + ", -1, 9): no block comes first", () -> x.set(address, -1, 9));
        }
        for (int address : new int[] {8, 12, 16, 28}) {
            noSuch("set(" + address + ", 0, 9)", () -> x.set(address, 0, 9));
            noSuch("set(" + address + ", " + MIN + ", 9): no block comes first", () -> x.set(address, MIN, 9));
            noSuch("set(" + address + ", " + MAX + ", 9): no block comes first", () -> x.set(address, MAX, 9));
        }
        for (int address : new int[] {4, 20, 24}) {
            dueMarks(x, address, 0, 0);
        }
    }

    private static void setNoWord() {
        RunHeap x = rowOf(4, 8, -8, 4);
        for (int i : new int[] {MIN, MIN + 4, -8, -4, -1, 7, 8, 9, 16, 4096, MAX - 8, MAX}) {
            outOfBounds("set(8, " + i + ", 9)", () -> x.set(8, i, 9));
        }
        for (int i : new int[] {MIN, -4, -1, 3, 4, MAX}) {
            outOfBounds("set(24, " + i + ", 9) of the last", () -> x.set(24, i, 9));
        }
        for (int address : new int[] {4, 8, 24}) {
            dueMarks(x, address, 0, 0);
        }
    }

    private static void sizeOfNone() {
        RunHeap x = rowOf(8, -8, 4, 4);
        for (int address : NEVER) {
            due("sizeOf(" + address + ")", x.sizeOf(address), NONE);
        }
        for (int address : new int[] {8, 12, 16, 28}) {
            due("sizeOf(" + address + ")", x.sizeOf(address), NONE);
        }
        due("sizeOf(4)", x.sizeOf(4), 7);
        due("sizeOf(24), the last", x.sizeOf(24), 3);
        due("free(4)", x.free(4), true);
        due("sizeOf(4) behind free", x.sizeOf(4), NONE);
        due("sizeOf(4) of a new heap", new RunHeap(16).sizeOf(4), NONE);
        RunHeap full = new RunHeap(4096);
        full.give(4091);
        due("sizeOf(4) of a block of all words", full.sizeOf(4), 4091);
    }

    private static void largestNone() {
        RunHeap x = rowOf(4, 4, 4);
        due("largest() of a full heap", x.largest(), 0);
        due("free(12)", x.free(12), true);
        due("largest() of the last", x.largest(), 4);
        due("free(4)", x.free(4), true);
        due("largest() of two", x.largest(), 4);
        due("free(8)", x.free(8), true);
        due("largest() of all", x.largest(), 12);
        due("largest() of the largest heap", new RunHeap(4096).largest(), 4092);
    }

    private static void dueCounts(String when, RunHeap x, int... counts) {
        for (int what = 0; what < counts.length; what++) {
            due("count(" + what + ") " + when, x.count(what), counts[what]);
        }
    }

    private static void countEach() {
        dueCounts("of a new heap", new RunHeap(16), 1, 12, 0, 0, 1);
        dueCounts("of a full heap", rowOf(4, 8), 0, 0, 2, 0, 0);
        RunHeap x = rowOf(4, -4, 8, 4, -12, 4, 4, -16);
        dueCounts("without advice", x, 3, 32, 5, 0, 3);
        due("advise(30)", x.advise(30), 3);
        dueCounts("with advice", x, 3, 32, 5, 3, 3);
        due("apply()", x.apply(), 3);
        dueCounts("behind apply", x, 1, 32, 5, 0, 1);
        pin(x, 44);
        dueCounts("with a pinned block", x, 1, 32, 5, 0, 1);
    }

    /** The tree may be as deep as there are free blocks, and as flat as seven on three levels. */
    private static void depths() {
        due("count(4) of a full heap", rowOf(4, 8).count(4), 0);
        due("count(4) of one", rowOf(4, -4, 4).count(4), 1);
        due("count(4) of two equal ones", rowOf(-4, 4, -4).count(4), 2);
        due("count(4) of a top with two", rowOf(-4, 4, -8, 4, -4).count(4), 2);
        due("count(4) rising", rowOf(-4, 4, -8, 4, -12, 4, -16).count(4), 4);
        due("count(4) falling", rowOf(-16, 4, -12, 4, -8, 4, -4).count(4), 4);
        due("count(4) of two deep to the left", rowOf(-4, 4, -8, 4, -12, 4, -4).count(4), 3);
        due("count(4) of two deep to the right", rowOf(-4, 4, -12, 4, -8, 4, -4).count(4), 3);
        due("count(4) of seven", rowOf(-4, 4, -8, 4, -4, 4, -12, 4, -4, 4, -8, 4, -4).count(4), 3);
        RunHeap chain = new RunHeap(4096);
        for (int i = 0; i < 500; i++) {
            chain.giveAligned(3, 8);
        }
        due("count(4) of a chain of 500 equal ones below the last", chain.count(4), 501);
    }

    private static void countOther() {
        RunHeap x = rowOf(4, -4, 8, 4, -12, 4, 4, -16);
        due("advise(30)", x.advise(30), 3);
        for (int what : new int[] {MIN, MIN + 1, -5, -1, 5, 6, 100, 1 << 30, MAX}) {
            due("count(" + what + ")", x.count(what), NONE);
        }
    }

    private static void freeAtEach() {
        RunHeap x = rowOf(4, -8, 4, -16, 4, -4);
        due("freeAt(0)", x.freeAt(0), 8);
        due("freeAt(1)", x.freeAt(1), 20);
        due("freeAt(2), the last group", x.freeAt(2), 40);
        due("free(4)", x.free(4), true);
        due("freeAt(0), the first group", x.freeAt(0), 4);
        due("freeAt(0) of a new heap", new RunHeap(4096).freeAt(0), 4);
    }

    private static void freeAtNone() {
        RunHeap x = rowOf(4, -8, 4, -16, 4, -4);
        for (int k : new int[] {MIN, MIN + 1, -2, -1, 3, 4, 8, 1024, MAX}) {
            due("freeAt(" + k + ")", x.freeAt(k), NONE);
        }
        RunHeap full = rowOf(4, 8);
        for (int k : new int[] {MIN, -1, 0, 1, MAX}) {
            due("freeAt(" + k + ") of a full heap", full.freeAt(k), NONE);
        }
        due("freeAt(1) of a new heap", new RunHeap(16).freeAt(1), NONE);
    }

    private static void branchNothing() {
        RunHeap one = new RunHeap(16);
        due("branch(4, 0) of one", one.branch(4, 0), 0);
        due("branch(4, 1) of one", one.branch(4, 1), 0);
        due("branch(4, 2) of one", one.branch(4, 2), 12);
        RunHeap x = rowOf(-4, 4, -8, 4, -4);
        due("branch(12, 0)", x.branch(12, 0), 4);
        due("branch(12, 1)", x.branch(12, 1), 24);
        due("branch(4, 0): the lowest", x.branch(4, 0), 0);
        due("branch(4, 1): 12 is above it", x.branch(4, 1), 0);
        due("branch(24, 0): 12 is above it", x.branch(24, 0), 0);
        due("branch(24, 1): the highest", x.branch(24, 1), 0);
        RunHeap between = rowOf(-12, 4, -4, 4, -8);
        due("branch(20, 0): 4 is above it", between.branch(20, 0), 0);
        due("branch(20, 1): 28 is above it", between.branch(20, 1), 0);
        due("branch(28, 0): up to 4, which is above it", between.branch(28, 0), 20);
        due("branch(4, 1)", between.branch(4, 1), 28);
    }

    private static void branchNoBlock() {
        RunHeap x = rowOf(-8, 8, -4, 4);
        for (int address : NEVER) {
            noSuch("branch(" + address + ", 0)", () -> x.branch(address, 0));
            noSuch("branch(" + address + ", 3): no block comes first", () -> x.branch(address, 3));
        }
        for (int address : new int[] {8, 12, 16, 24, 28}) {
            for (int side : new int[] {0, 1, 2}) {
                noSuch("branch(" + address + ", " + side + ")", () -> x.branch(address, side));
            }
            for (int side : new int[] {MIN, -1, 3, MAX}) {
                noSuch("branch(" + address + ", " + side + "): no block comes first", () -> x.branch(address, side));
            }
        }
        due("give(3)", x.give(3), 4);
        noSuch("branch(4, 2) behind give", () -> x.branch(4, 2));
        due("branch(8, 2) behind give", x.branch(8, 2), 4);
    }

    private static void branchOtherSide() {
        RunHeap x = rowOf(-8, 8, -4, 4);
        for (int side : new int[] {MIN, MIN + 2, -3, -2, -1, 3, 4, 1 << 30, MAX}) {
            badArgument("branch(4, " + side + ")", () -> x.branch(4, side));
            badArgument("branch(20, " + side + ")", () -> x.branch(20, side));
        }
    }

    private static void refusedAdvice(RunHeap x, int good, int words) {
        due("advise(" + good + ") before", x.advise(good) == NONE, false);
        due("advise(" + words + ")", x.advise(words), NONE);
        dueNoAdvice("behind advise(" + words + ")", x);
    }

    /** More words than there are, a pinned block in each, or victims for whom there is no room. */
    private static void adviseNoWindow() {
        RunHeap x = rowOf(4, -4, 8, 4, -12, 4, 4, -16);
        for (int words : new int[] {56, 57, 60, 4092, 4093, 4096, 1 << 30, MAX - 3, MAX}) {
            refusedAdvice(x, 30, words);
        }
        dueRow("behind all of them", x, 4, -4, 8, 4, -12, 4, 4, -16);
        RunHeap pinned = rowOf(-8, 4, -8);
        pin(pinned, 12);
        refusedAdvice(pinned, 8, 9);
        RunHeap noRoom = rowOf(-4, 8, -4);
        refusedAdvice(noRoom, 4, 5);
        RunHeap roomForOne = rowOf(-4, 4, 4, 4);
        pin(roomForOne, 8);
        refusedAdvice(roomForOne, 4, 8);
        RunHeap full = rowOf(4, 8);
        due("advise(1) of a full heap", full.advise(1), NONE);
        dueNoAdvice("of a full heap", full);
        pin(full, 4, 8);
        due("advise(1) of a full heap, all pinned", full.advise(1), NONE);
        dueAdvice(new RunHeap(16), 12, 0, 4);
        dueAdvice(new RunHeap(16), 13, NONE, NONE);
    }

    /** Of what there was before nothing counts: neither its last block nor room in it. */
    private static void adviseFewerBlocks() {
        RunHeap lastTwice = rowOf(4, 4, -4);
        dueAdvice(lastTwice, 4, 0, 12);
        due("free(8)", lastTwice.free(8), true);
        dueAdvice(lastTwice, 9, NONE, NONE);
        dueAdvice(lastTwice, 8, 0, 8);
        RunHeap roomTwice = rowOf(-4, 4, 4, -8);
        pin(roomTwice, 12);
        dueAdvice(roomTwice, 4, 0, 4);
        due("free(8)", roomTwice.free(8), true);
        due("pin(12, false)", roomTwice.pin(12, false), true);
        dueAdvice(roomTwice, 20, NONE, NONE);
        dueAdvice(roomTwice, 12, 1, 4);
    }

    private static void adviseBelow1() {
        RunHeap x = rowOf(4, -4, 8, 4, -12, 4, 4, -16);
        for (int words : BELOW_1) {
            refusedAdvice(x, 30, words);
            refusedAdvice(x, 4, words);
        }
        dueAdvice(x, 1, 0, 8);
    }

    private static void adviseMoreThan128() {
        RunHeap x = new RunHeap(4096);
        for (int i = 0; i < 128; i++) {
            x.give(3);
        }
        due("count(2)", x.count(2), 128);
        dueAdvice(x, 4, 0, 516);
        due("give(3)", x.give(3), 516);
        for (int words : new int[] {1, 4, 3000, 4092, 0, MIN, MAX}) {
            due("advise(" + words + ") with 129 live blocks", x.advise(words), NONE);
            dueNoAdvice("with 129 live blocks", x);
        }
        pin(x, 4);
        due("advise(4): pinned ones are live", x.advise(4), NONE);
        due("free(260)", x.free(260), true);
        dueAdvice(x, 4, 0, 260);
        due("advise(8) with 128 live blocks", x.advise(8), 0);
        due("window()", x.window(), 520);
        due("advise(3577)", x.advise(3577), 1);
        dueMoves(x, new int[][] {{516, 260}});
        due("apply()", x.apply(), 1);
        due("largest()", x.largest(), 3580);
        RunHeap mostBlocks = new RunHeap(4096);
        for (int i = 0; i < 128; i++) {
            mostBlocks.giveAligned(3, 8);
        }
        due("count(0) with 128 live blocks", mostBlocks.count(0), 129);
        dueAdvice(mostBlocks, 8, 0, 1028);
        dueAdvice(mostBlocks, 3069, 1, 1020);
        dueMoves(mostBlocks, new int[][] {{1024, 4}});
    }

    private static void windowLowest() {
        RunHeap x = rowOf(4, -4, 8, 4, -12, 4, 4, -16);
        dueAdvice(x, 30, 3, 4);
        dueAdvice(x, 4, 0, 8);
        dueAdvice(x, 12, 0, 24);
        dueAdvice(x, 20, 1, 40);
        RunHeap last = rowOf(4, 8, -4);
        dueAdvice(last, 4, 0, 16);
    }

    private static void windowNone() {
        RunHeap x = rowOf(4, -4, 8, 4, -12, 4, 4, -16);
        due("window() before any advice", x.window(), NONE);
        dueAdvice(x, 20, 1, 40);
        dueAdvice(x, 57, NONE, NONE);
        dueAdvice(x, 12, 0, 24);
        due("apply()", x.apply(), 0);
        due("window() behind apply", x.window(), NONE);
        dueAdvice(x, 12, 0, 24);
        due("free(4)", x.free(4), true);
        due("window() behind free", x.window(), NONE);
    }

    private static void moveEach() {
        RunHeap x = rowOf(4, -4, 8, 4, -12, 4, 4, -16);
        due("advise(30)", x.advise(30), 3);
        dueMoves(x, new int[][] {{12, 44}, {4, 52}, {20, 56}});
        dueMoves(x, new int[][] {{12, 44}, {4, 52}, {20, 56}});
    }

    private static void moveNone() {
        RunHeap x = rowOf(4, -4, 8, 4, -12, 4, 4, -16);
        outOfBounds("move(0, 0) before any advice", () -> x.move(0, 0));
        outOfBounds("move(0, 2) before any advice: none such comes first", () -> x.move(0, 2));
        due("advise(30)", x.advise(30), 3);
        for (int i : new int[] {MIN, MIN + 1, -128, -1, 3, 4, 127, 128, 129, MAX}) {
            outOfBounds("move(" + i + ", 0)", () -> x.move(i, 0));
            outOfBounds("move(" + i + ", 1)", () -> x.move(i, 1));
            outOfBounds("move(" + i + ", 2): none such comes first", () -> x.move(i, 2));
            outOfBounds("move(" + i + ", -1): none such comes first", () -> x.move(i, -1));
        }
        due("advise(20)", x.advise(20), 1);
        outOfBounds("move(1, 0): fewer moves than before", () -> x.move(1, 0));
        due("advise(12)", x.advise(12), 0);
        outOfBounds("move(0, 0) without victims", () -> x.move(0, 0));
        due("advise(30)", x.advise(30), 3);
        due("apply()", x.apply(), 3);
        outOfBounds("move(0, 0) behind apply", () -> x.move(0, 0));
    }

    private static void moveOther() {
        RunHeap x = rowOf(4, -4, 8, 4, -12, 4, 4, -16);
        due("advise(30)", x.advise(30), 3);
        for (int what : new int[] {MIN, MIN + 1, -2, -1, 2, 3, 1 << 30, MAX}) {
            badArgument("move(0, " + what + ")", () -> x.move(0, what));
            badArgument("move(2, " + what + ")", () -> x.move(2, what));
        }
        dueMoves(x, new int[][] {{12, 44}, {4, 52}, {20, 56}});
    }

    /** What is set behind the advice is moved too, and what stays where it is keeps its words. */
    private static void applyPayloads() {
        RunHeap x = rowOf(4, -4, 8, 4, -12, 4, 4, -16);
        for (int address : new int[] {4, 12, 20, 36, 40}) {
            mark(x, address, 10 * address);
        }
        due("advise(30)", x.advise(30), 3);
        due("set(20, 2, 999)", x.set(20, 2, 999), 202);
        due("apply()", x.apply(), 3);
        dueRow("behind apply", x, -32, 4, 4, 8, 4, 4);
        dueMarks(x, 36, 360, 3);
        dueMarks(x, 40, 400, 3);
        dueMarks(x, 44, 120, 7);
        dueMarks(x, 52, 40, 3);
        due("get(56, 0)", x.get(56, 0), 200);
        due("get(56, 1)", x.get(56, 1), 201);
        due("get(56, 2)", x.get(56, 2), 999);
        noSuch("get(12, 0)", () -> x.get(12, 0));
    }

    private static void applyNone() {
        RunHeap x = rowOf(4, -4, 8, 4, -12, 4, 4, -16);
        due("apply() before any advice", x.apply(), NONE);
        due("advise(57)", x.advise(57), NONE);
        due("apply() behind a refused advise", x.apply(), NONE);
        due("advise(20)", x.advise(20), 1);
        due("free(4)", x.free(4), true);
        due("apply() behind free", x.apply(), NONE);
        dueRow("behind all of them", x, -8, 8, 4, -12, 4, 4, -16);
    }

    private static void applyEnds() {
        RunHeap x = rowOf(4, -4, 8, 4, -12, 4, 4, -16);
        due("advise(12)", x.advise(12), 0);
        due("apply()", x.apply(), 0);
        dueNoAdvice("behind an apply without moves", x);
        due("advise(20)", x.advise(20), 1);
        due("apply()", x.apply(), 1);
        dueNoAdvice("behind apply", x);
        dueRow("behind apply", x, 4, 4, 8, 4, -12, 4, -20);
    }

    private static void movedLatest() {
        RunHeap x = rowOf(4, -4, 8, 4, -12, 4, 4, -16);
        due("advise(20)", x.advise(20), 1);
        due("moved(40) before apply", x.moved(40), NONE);
        due("apply()", x.apply(), 1);
        due("moved(40)", x.moved(40), 8);
        due("free(8): it did come there", x.free(8), true);
        due("give(19): another has its old address", x.give(19), 40);
        due("moved(40) still", x.moved(40), 8);
        due("apply(), a refused one", x.apply(), NONE);
        due("moved(40) still", x.moved(40), 8);
        due("advise(16)", x.advise(16), 1);
        due("moved(40) until the next apply", x.moved(40), 8);
        dueMoves(x, new int[][] {{20, 8}});
        due("apply()", x.apply(), 1);
        due("moved(20)", x.moved(20), 8);
        due("moved(40): not by the latest", x.moved(40), NONE);
        due("advise(4)", x.advise(4), 0);
        due("apply(): no moves", x.apply(), 0);
        due("moved(20): not by the latest", x.moved(20), NONE);
    }

    private static void movedNone() {
        RunHeap x = rowOf(4, -4, 8, 4, -12, 4, 4, -16);
        due("moved(40) before any apply", x.moved(40), NONE);
        due("advise(20)", x.advise(20), 1);
        due("apply()", x.apply(), 1);
        for (int address : NEVER) {
            due("moved(" + address + ")", x.moved(address), NONE);
        }
        for (int address = 4; address <= 64; address++) {
            due("moved(" + address + ")", x.moved(address), address == 40 ? 8 : NONE);
        }
    }
}
