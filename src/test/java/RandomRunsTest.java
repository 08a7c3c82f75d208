import java.util.Random;

/**
 * All promises: random runs, of at most 512 calls on each object, must be answered as the plain
 * mesh of the tests answers them. The seeds are fixed, so every run of this test is the same.
 */
public final class RandomRunsTest {
    private static final int RUNS_PER_SHAPE = 30;
    private static final int CALLS = 512;

    private final Random random;
    private final String shape;
    private final WormMesh mesh;
    private final PlainMesh plain;
    private final int kinds;
    private final int busy;
    private final int favourite;

    private RandomRunsTest(int width, int height, int depth, int channels, long seed) {
        random = new Random(seed);
        shape = "mesh(" + width + ", " + height + ", " + depth + ", " + channels + ") seed " + seed;
        mesh = new WormMesh(width, height, depth, channels);
        plain = new PlainMesh(width, height, depth, channels);
        kinds = channels;
        busy = 10 + random.nextInt(50);
        favourite = random.nextInt(plain.nodes());
    }

    public static void main(String[] args) {
        long seed = 1;
        for (int width = 1; width <= 3; width++) {
            for (int height = 1; height <= 3; height++) {
                for (int depth = 1; depth <= 4; depth++) {
                    for (int channels = 1; channels <= 2; channels++) {
                        for (int i = 0; i < RUNS_PER_SHAPE; i++) {
                            new RandomRunsTest(width, height, depth, channels, seed++).play();
                        }
                    }
                }
            }
        }
        Due.end();
    }

    private void play() {
        int wrongBefore = Due.wrong();
        // What is answered after a wrong answer tells nothing new.
        for (int call = 0; call < CALLS && Due.wrong() == wrongBefore; call++) {
            int kind = random.nextInt(100);
            if (kind < busy) {
                request();
            } else if (kind < busy + 15) {
                run();
            } else if (kind < busy + 18) {
                int node = node();
                boolean held = random.nextInt(3) == 0;
                due("hold " + node, plain.hold(node, held) ? 1 : 0, mesh.hold(node, held) ? 1 : 0);
            } else {
                look();
            }
        }
        due("the plain mesh is sound", 1, plain.isSound() ? 1 : 0);
    }

    private void due(String call, int want, int got) {
        Due.is(shape + " tick " + plain.ticks() + " " + call, want, got);
    }

    /** Mostly a number below the bound, at times one that is just out of it. */
    private int below(int bound) {
        if (random.nextInt(40) == 0) {
            return random.nextBoolean() ? -1 : bound;
        }
        return random.nextInt(bound);
    }

    private int node() {
        return random.nextInt(3) == 0 ? favourite : below(plain.nodes());
    }

    private void request() {
        int from = below(plain.nodes());
        int to = node();
        boolean write = random.nextBoolean();
        int word = below(8);
        int value = random.nextInt();
        due("request " + from + " to " + to,
                plain.request(from, to, write, word, value),
                mesh.request(from, to, write, word, value));
    }

    private void run() {
        int n = random.nextInt(8) == 0 ? below(61) : random.nextInt(4);
        due("run " + n, plain.run(n), mesh.run(n));
    }

    private void look() {
        int node = node();
        int port = below(5);
        int channel = below(2 * kinds);
        String place = node + " " + port + " " + channel;
        switch (random.nextInt(9)) {
            case 0 -> due("ticks", plain.ticks(), mesh.ticks());
            case 1 -> due("sent", plain.sent(), mesh.sent());
            case 2 -> due("replies", plain.replies(), mesh.replies());
            case 3 -> {
                int i = below(plain.replies() + 1);
                int what = below(3);
                due("reply " + i + " " + what, plain.reply(i, what), mesh.reply(i, what));
            }
            case 4 -> {
                int word = below(8);
                String call = "memory " + node + " " + word;
                due(call, plain.memory(node, word), mesh.memory(node, word));
            }
            case 5 -> due("waiting " + node, plain.waiting(node), mesh.waiting(node));
            case 6 -> due("lane " + place,
                    plain.lane(node, port, channel), mesh.lane(node, port, channel));
            case 7 -> due("output " + place,
                    plain.output(node, port, channel), mesh.output(node, port, channel));
            default -> due("arrival " + place,
                    plain.arrival(node, channel), mesh.arrival(node, channel));
        }
    }
}
