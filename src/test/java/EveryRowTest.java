import java.util.ArrayDeque;
import java.util.ArrayList;
import java.util.HashSet;
import java.util.List;
import java.util.Queue;
import java.util.Set;
import java.util.function.IntSupplier;

/**
 * Every row of a small heap that calls can lead to, with every advice that can be there on it: from
 * each of them every kind of call, against the model, and a look at all that can be asked then.
 */
public final class EveryRowTest {

    /** What an object answers to more calls is free. */
    private static final int CALLS = 512;
    private static final int MIN = Integer.MIN_VALUE;
    private static final int MAX = Integer.MAX_VALUE;
    private static final int MOST_GROUPS = 5;

    private static int wrong = 0;

    public static void main(String[] args) {
        int most = args.length == 0 ? MOST_GROUPS : Integer.parseInt(args[0]);
        int rows = 0;
        for (int groups = 3; groups <= most && wrong < 20; groups++) {
            rows += new Small(groups).goThrough();
        }
        System.out.println(wrong == 0 ? "all " + rows + " rows agree" : wrong + " answers do not agree");
        if (wrong != 0) {
            System.exit(1);
        }
    }

    /** A call that may change the heap, by its name and its arguments. */
    private record Call(String name, int x, int y) {

        int on(RunHeap heap) {
            switch (name) {
                case "give":
                    return heap.give(x);
                case "giveAligned":
                    return heap.giveAligned(x, y);
                case "free":
                    return heap.free(x) ? 1 : 0;
                case "grow":
                    return heap.grow(x, y) ? 1 : 0;
                case "trim":
                    return heap.trim(x, y) ? 1 : 0;
                case "pin":
                    return heap.pin(x, y == 1) ? 1 : 0;
                case "advise":
                    return heap.advise(x);
                default:
                    return heap.apply();
            }
        }

        int on(Model heap) {
            switch (name) {
                case "give":
                    return heap.give(x, 4);
                case "giveAligned":
                    return heap.give(x, y);
                case "free":
                    return heap.free(x);
                case "grow":
                    return heap.grow(x, y);
                case "trim":
                    return heap.trim(x, y);
                case "pin":
                    return heap.pin(x, y == 1);
                case "advise":
                    return heap.advise(x);
                default:
                    return heap.apply();
            }
        }
    }

    /** The heap and the model behind the same calls. */
    private static final class Twins {
        final RunHeap real;
        final Model model;
        final List<Call> made = new ArrayList<>();
        int calls = 0;

        Twins(int words) {
            real = new RunHeap(words);
            model = new Model(words);
        }

        void due(String text, IntSupplier asked, int want) {
            calls++;
            int got = Model.answerOf(asked);
            if (got != want || calls > CALLS) {
                wrong++;
                System.out.println("call " + calls + ", behind " + made + ": " + text + " answered " + got
                    + ", due is " + want);
            }
        }

        void make(Call call) {
            due(call.toString(), () -> call.on(real), call.on(model));
            made.add(call);
        }

        /** No word stays 0, so that what is left over in free words shows if it comes back. */
        void mark() {
            for (Model.Block b : model.blocks) {
                for (int i = 0; b.live && i < b.payload.length; i++) {
                    if (b.payload[i] == 0) {
                        int at = i;
                        int v = 1000 * made.size() + b.address + i;
                        due("set(" + b.address + ", " + i + ", " + v + ")", () -> real.set(b.address, at, v),
                            model.set(b.address, i, v));
                    }
                }
            }
        }

        void lookAtAll(int end) {
            for (int what = -1; what <= 5; what++) {
                int asked = what;
                due("count(" + what + ")", () -> real.count(asked), model.count(what));
            }
            due("largest()", real::largest, model.largest());
            due("window()", real::window, model.window);
            for (int i = -1; i <= model.moves.size(); i++) {
                lookAtMove(i);
            }
            for (int k = -1; k <= model.frees().size(); k++) {
                int asked = k;
                due("freeAt(" + k + ")", () -> real.freeAt(asked), model.freeAt(k));
            }
            for (int address = 0; address <= end; address += 4) {
                lookAtBlock(address);
            }
        }

        private void lookAtMove(int i) {
            for (int what = 0; what <= 2; what++) {
                int asked = what;
                due("move(" + i + ", " + what + ")", () -> real.move(i, asked), model.move(i, what));
            }
        }

        private void lookAtBlock(int address) {
            due("sizeOf(" + address + ")", () -> real.sizeOf(address), model.sizeOf(address));
            due("moved(" + address + ")", () -> real.moved(address), model.moved(address));
            for (int side = 0; side <= 3; side++) {
                int asked = side;
                due("branch(" + address + ", " + side + ")", () -> real.branch(address, asked),
                    model.branch(address, side));
            }
            for (int i = 0; i <= Math.max(0, model.sizeOf(address)); i++) {
                int asked = i;
                due("get(" + address + ", " + i + ")", () -> real.get(address, asked), model.get(address, i));
            }
        }

        /** All that later answers depend on, but for payloads and what moved answers. */
        String state() {
            StringBuilder text = new StringBuilder();
            for (Model.Block b : model.blocks) {
                text.append(b.words).append(b.live ? b.pinned ? 'p' : 'l' : 'f');
            }
            text.append(" window ").append(model.window);
            for (int[] move : model.moves) {
                text.append(' ').append(move[0]).append(" to ").append(move[1]);
            }
            return text.toString();
        }
    }

    /** A heap of so many groups of four words. */
    private static final class Small {
        final int words;
        /** Where the first block behind the last word would be. */
        final int end;
        final List<Call> calls = new ArrayList<>();
        final Set<String> seen = new HashSet<>();
        final Queue<List<Call>> waysToGo = new ArrayDeque<>();

        Small(int groups) {
            words = 4 * groups + 3;
            end = 4 * groups + 4;
            listCalls();
        }

        private void listCalls() {
            List<Integer> sizes = new ArrayList<>(List.of(MIN, -1, 0, 1));
            for (int size = 4; size < end; size += 4) {
                sizes.add(size - 1);
                sizes.add(size);
            }
            sizes.add(MAX);
            for (int size : sizes) {
                listSized(size);
            }
            for (int address = 0; address <= end; address += 4) {
                calls.add(new Call("free", address, 0));
                calls.add(new Call("pin", address, 0));
                calls.add(new Call("pin", address, 1));
            }
            calls.add(new Call("apply", 0, 0));
        }

        private void listSized(int size) {
            calls.add(new Call("give", size, 0));
            for (int a : new int[] {4, 8, 12, 16}) {
                calls.add(new Call("giveAligned", size, a));
            }
            for (int address = 4; address < end; address += 4) {
                calls.add(new Call("grow", address, size));
                calls.add(new Call("trim", address, size));
            }
            calls.add(new Call("advise", size, 0));
            calls.add(new Call("advise", size == MAX ? MAX : size + 1, 0));
        }

        int goThrough() {
            Twins first = new Twins(words);
            seen.add(first.state());
            waysToGo.add(List.of());
            first.lookAtAll(end);
            while (!waysToGo.isEmpty() && wrong < 20) {
                List<Call> way = waysToGo.remove();
                for (Call call : calls) {
                    goOn(way, call);
                }
            }
            return seen.size();
        }

        private void goOn(List<Call> way, Call call) {
            Twins twins = new Twins(words);
            for (Call before : way) {
                twins.make(before);
                twins.mark();
            }
            twins.make(call);
            twins.lookAtAll(end);
            if (seen.add(twins.state())) {
                waysToGo.add(List.copyOf(twins.made));
            }
        }
    }
}
