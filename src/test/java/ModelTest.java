import java.util.Random;
import java.util.function.IntSupplier;

/** Long mixed runs against the model. The seeds are fixed, so the same runs come each time. */
public final class ModelTest {

    /** What an object answers to more calls is free. */
    private static final int CALLS = 512;
    private static final int RUNS = 2500;

    private static int wrong = 0;

    public static void main(String[] args) {
        for (int run = 0; run < RUNS && wrong < 20; run++) {
            new Run(run).go();
        }
        System.out.println(wrong == 0 ? "all runs agree" : wrong + " answers do not agree");
        if (wrong != 0) {
            System.exit(1);
        }
    }

    private static final class Run {
        final int number;
        final Random random;
        final RunHeap real;
        final Model model;
        /** What the run leans to: how large blocks are, how often they are freed. */
        final int most;
        final int freeing;
        final int queries;
        int call = 0;

        Run(int number) {
            this.number = number;
            random = new Random(number * 7919L + 1);
            int[] sizes = {16, 40, 64, 100, 203, 400, 1000, 2001, 4096, 5000};
            int words = sizes[random.nextInt(sizes.length)] + random.nextInt(5) - 2;
            real = new RunHeap(words);
            model = new Model(words);
            most = 1 + random.nextInt(random.nextInt(4) == 0 ? 200 : 20);
            freeing = 1 + random.nextInt(6);
            queries = 1 + random.nextInt(6);
        }

        void go() {
            while (call < CALLS && wrong < 20) {
                step();
            }
        }

        void due(String text, IntSupplier asked, int want) {
            if (call == CALLS) {
                return;
            }
            call++;
            int got = Model.answerOf(asked);
            if (got != want) {
                wrong++;
                System.out.println("run " + number + ", call " + call + ": " + text + " answered " + got
                    + ", due is " + want);
            }
        }

        int size() {
            if (random.nextInt(40) == 0) {
                int[] odd = {0, -1, Integer.MIN_VALUE, Integer.MAX_VALUE, 4096, 4091, 4092};
                return odd[random.nextInt(odd.length)];
            }
            return 1 + random.nextInt(most);
        }

        /** Mostly that of a block, so that most calls have something to do. */
        int address() {
            if (random.nextInt(15) == 0) {
                int[] odd = {0, -4, 3, 5, 4096, 4100, Integer.MIN_VALUE, Integer.MAX_VALUE, random.nextInt(4200)};
                return odd[random.nextInt(odd.length)];
            }
            return model.blocks.get(random.nextInt(model.blocks.size())).address;
        }

        int small(int bound) {
            return random.nextInt(bound + 2) - 1;
        }

        void step() {
            int pick = random.nextInt(12 + freeing + queries);
            if (pick < 12) {
                change(pick);
            } else if (pick < 12 + freeing) {
                int address = address();
                due("free(" + address + ")", () -> real.free(address) ? 1 : 0, model.free(address));
            } else {
                query();
            }
        }

        void change(int pick) {
            int words = size();
            int address = address();
            if (pick < 4) {
                due("give(" + words + ")", () -> real.give(words), model.give(words, 4));
            } else if (pick < 6) {
                int a = random.nextInt(12) == 0 ? random.nextInt(2100) - 20 : 2 << random.nextInt(11);
                due("giveAligned(" + words + ", " + a + ")", () -> real.giveAligned(words, a), model.give(words, a));
            } else if (pick == 6) {
                due("grow(" + address + ", " + words + ")", () -> real.grow(address, words) ? 1 : 0,
                    model.grow(address, words));
            } else if (pick == 7) {
                due("trim(" + address + ", " + words + ")", () -> real.trim(address, words) ? 1 : 0,
                    model.trim(address, words));
            } else if (pick == 8) {
                boolean is = random.nextInt(4) == 0;
                due("pin(" + address + ", " + is + ")", () -> real.pin(address, is) ? 1 : 0, model.pin(address, is));
            } else if (pick == 9) {
                int i = small(most);
                int v = random.nextInt();
                due("set(" + address + ", " + i + ", " + v + ")", () -> real.set(address, i, v),
                    model.set(address, i, v));
            } else {
                advice();
            }
        }

        void advice() {
            int more = random.nextInt(8) == 0 ? random.nextInt(2000) : random.nextInt(4 * most + 8);
            int words = random.nextInt(6) == 0 ? size() : model.largest() + more;
            due("advise(" + words + ")", () -> real.advise(words), model.advise(words));
            due("window()", real::window, model.window);
            for (int k = random.nextInt(4); k > 0; k--) {
                int i = small(model.moves.size() + 1);
                int what = random.nextInt(10) == 0 ? small(3) : random.nextInt(2);
                due("move(" + i + ", " + what + ")", () -> real.move(i, what), model.move(i, what));
            }
            if (random.nextInt(3) == 0) {
                int address = address();
                due("apply()", real::apply, model.apply());
                due("moved(" + address + ")", () -> real.moved(address), model.moved(address));
            }
        }

        void query() {
            int address = address();
            int i = random.nextInt(4) == 0 ? small(5) : small(most);
            switch (random.nextInt(10)) {
                case 0:
                    due("get(" + address + ", " + i + ")", () -> real.get(address, i), model.get(address, i));
                    break;
                case 1:
                    due("sizeOf(" + address + ")", () -> real.sizeOf(address), model.sizeOf(address));
                    break;
                case 2:
                    due("largest()", real::largest, model.largest());
                    break;
                case 3:
                case 4:
                    int what = small(6);
                    due("count(" + what + ")", () -> real.count(what), model.count(what));
                    break;
                case 5:
                    int k = small(model.frees().size() + 1);
                    due("freeAt(" + k + ")", () -> real.freeAt(k), model.freeAt(k));
                    break;
                case 6:
                case 7:
                    int free = model.frees().isEmpty() ? address : model.freeAt(random.nextInt(model.count(0)));
                    int side = random.nextInt(8) == 0 ? small(3) : random.nextInt(3);
                    due("branch(" + free + ", " + side + ")", () -> real.branch(free, side), model.branch(free, side));
                    break;
                case 8:
                    int from = model.latest.isEmpty() ? address
                        : model.latest.get(random.nextInt(model.latest.size()))[0];
                    due("moved(" + from + ")", () -> real.moved(from), model.moved(from));
                    break;
                default:
                    due("window()", real::window, model.window);
                    due("move(0, 1)", () -> real.move(0, 1), model.move(0, 1));
                    break;
            }
        }
    }
}
