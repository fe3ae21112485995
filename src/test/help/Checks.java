import java.util.NoSuchElementException;

/** What the tests by hand share: they count the answers that are not as due, and go on. */
abstract class Checks {

    static final int NONE = -1;
    static final int MIN = Integer.MIN_VALUE;
    static final int MAX = Integer.MAX_VALUE;

    private static String part = "";
    private static int wrong = 0;

    interface Use {
        void on(RunHeap x);
    }

    static void run(String name, Runnable test) {
        part = name;
        try {
            test.run();
        } catch (RuntimeException e) {
            wrong++;
            System.out.println(part + ": threw " + e);
        }
    }

    static void end(String allIsWell) {
        System.out.println(wrong == 0 ? allIsWell : wrong + " answers are not as due");
        if (wrong != 0) {
            System.exit(1);
        }
    }

    static void due(String call, Object got, Object want) {
        if (!got.equals(want)) {
            wrong++;
            String where = part.isEmpty() ? "" : part + ": ";
            System.out.println(where + call + " answered " + got + ", due is " + want);
        }
    }

    static void noSuch(String call, Runnable body) {
        dueThrow(call, NoSuchElementException.class, body);
    }

    static void outOfBounds(String call, Runnable body) {
        dueThrow(call, IndexOutOfBoundsException.class, body);
    }

    static void badArgument(String call, Runnable body) {
        dueThrow(call, IllegalArgumentException.class, body);
    }

    /** Payloads given one after the other on a new heap; those below 0 are freed afterwards. */
    static RunHeap heapOf(int words, int... payloads) {
        RunHeap x = new RunHeap(words);
        int[] at = new int[payloads.length];
        for (int i = 0; i < payloads.length; i++) {
            at[i] = x.give(Math.abs(payloads[i]));
        }
        for (int i = 0; i < payloads.length; i++) {
            if (payloads[i] < 0) {
                x.free(at[i]);
            }
        }
        return x;
    }

    /** A heap of just these blocks, each told by its words, free ones by their negative. */
    static RunHeap rowOf(int... blocks) {
        int words = 3;
        int[] payloads = new int[blocks.length];
        for (int i = 0; i < blocks.length; i++) {
            words += Math.abs(blocks[i]);
            payloads[i] = blocks[i] < 0 ? blocks[i] + 1 : blocks[i] - 1;
        }
        return heapOf(words, payloads);
    }

    /** The whole row, told as in rowOf: where each block begins and ends, and what is inside none. */
    static void dueRow(String when, RunHeap x, int... blocks) {
        int at = 4;
        int free = 0;
        int freeWords = 0;
        int largest = 0;
        for (int block : blocks) {
            int words = Math.abs(block);
            due("sizeOf(" + at + ") " + when, x.sizeOf(at), block < 0 ? NONE : words - 1);
            if (block < 0) {
                due("freeAt(" + free + ") " + when, x.freeAt(free), at);
                due("branch(" + at + ", 2) " + when, x.branch(at, 2), words);
                free++;
                freeWords += words;
                largest = Math.max(largest, words);
            }
            for (int inside = at + 4; inside < at + words; inside += 4) {
                dueNoBlock(when, x, inside);
            }
            at += words;
        }
        dueNoBlock(when, x, at);
        due("freeAt(" + free + ") " + when, x.freeAt(free), NONE);
        due("count(0) " + when, x.count(0), free);
        due("count(1) " + when, x.count(1), freeWords);
        due("count(2) " + when, x.count(2), blocks.length - free);
        due("largest() " + when, x.largest(), largest);
    }

    private static void dueNoBlock(String when, RunHeap x, int address) {
        due("sizeOf(" + address + ") " + when, x.sizeOf(address), NONE);
        noSuch("branch(" + address + ", 2) " + when, () -> x.branch(address, 2));
    }

    static void dueAdvice(RunHeap x, int words, int victims, int window) {
        due("advise(" + words + ")", x.advise(words), victims);
        due("window() of advise(" + words + ")", x.window(), window);
    }

    static void dueNoAdvice(String when, RunHeap x) {
        due("window() " + when, x.window(), NONE);
        due("count(3) " + when, x.count(3), 0);
        outOfBounds("move(0, 0) " + when, () -> x.move(0, 0));
        due("apply() " + when, x.apply(), NONE);
    }

    static void pin(RunHeap x, int... addresses) {
        for (int address : addresses) {
            due("pin(" + address + ", true)", x.pin(address, true), true);
        }
    }

    /** Every word of a block's payload another one, none of them 0. */
    static void mark(RunHeap x, int address, int mark) {
        for (int i = 0; i < x.sizeOf(address); i++) {
            x.set(address, i, mark + i);
        }
    }

    static void dueMarks(RunHeap x, int address, int mark, int marked) {
        for (int i = 0; i < x.sizeOf(address); i++) {
            due("get(" + address + ", " + i + ")", x.get(address, i), i < marked ? mark + i : 0);
        }
    }

    static void dueMoves(RunHeap x, int[][] moves) {
        due("count(3)", x.count(3), moves.length);
        for (int i = 0; i < moves.length; i++) {
            due("move(" + i + ", 0)", x.move(i, 0), moves[i][0]);
            due("move(" + i + ", 1)", x.move(i, 1), moves[i][1]);
        }
    }

    private static void dueThrow(String call, Class<?> want, Runnable body) {
        Object got = "nothing thrown";
        try {
            body.run();
        } catch (RuntimeException e) {
            got = e.getClass();
        }
        due(call, got, want);
    }
}
