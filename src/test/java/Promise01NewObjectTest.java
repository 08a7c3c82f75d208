/** Promise 1: the measures are brought within their bounds, and all is empty at first. */
public final class Promise01NewObjectTest {
    private static final int[] TOO_SMALL = {0, -1, -2, Integer.MIN_VALUE};
    private static final int[] TOO_LARGE_FOR_3 = {4, 5, 100, Integer.MAX_VALUE};
    private static final int[] TOO_LARGE_FOR_4 = {5, 6, 100, Integer.MAX_VALUE};
    private static final int[] TOO_LARGE_FOR_2 = {3, 4, 100, Integer.MAX_VALUE};

    public static void main(String[] args) {
        measures("within the bounds", 1, 2, 3, 2, 1, 2, 3, 2);
        measures("least", 1, 1, 1, 1, 1, 1, 1, 1);
        measures("greatest", 3, 3, 4, 2, 3, 3, 4, 2);
        for (int wrong : TOO_SMALL) {
            measures("width too small", wrong, 2, 2, 2, 1, 2, 2, 2);
            measures("height too small", 2, wrong, 2, 2, 2, 1, 2, 2);
            measures("depth too small", 2, 2, wrong, 2, 2, 2, 1, 2);
            measures("channels too small", 2, 2, 2, wrong, 2, 2, 2, 1);
            measures("all too small", wrong, wrong, wrong, wrong, 1, 1, 1, 1);
        }
        for (int wrong : TOO_LARGE_FOR_3) {
            measures("width too large", wrong, 2, 2, 1, 3, 2, 2, 1);
            measures("height too large", 2, wrong, 2, 1, 2, 3, 2, 1);
        }
        for (int wrong : TOO_LARGE_FOR_4) {
            measures("depth too large", 2, 1, wrong, 1, 2, 1, 4, 1);
        }
        for (int wrong : TOO_LARGE_FOR_2) {
            measures("channels too large", 2, 1, 1, wrong, 2, 1, 1, 2);
        }
        measures("all too large", 4, 4, 5, 3, 3, 3, 4, 2);
        everyMeasureWithin();
        emptyAtFirst();
        Due.end();
    }

    private static void everyMeasureWithin() {
        for (int w = 1; w <= 3; w++) {
            for (int h = 1; h <= 3; h++) {
                for (int d = 1; d <= 4; d++) {
                    for (int v = 1; v <= 2; v++) {
                        measures("every", w, h, d, v, w, h, d, v);
                    }
                }
            }
        }
    }

    /** A mesh that is made with width, height, depth and channels has W, H, D and V. */
    private static void measures(String what, int width, int height, int depth, int channels,
            int w, int h, int d, int v) {
        WormMesh mesh = new WormMesh(width, height, depth, channels);
        String name = what + " (" + width + ", " + height + ", " + depth + ", " + channels + ") ";
        Due.is(name + "nodes", w * h, mesh.nodes());
        Due.is(name + "credits of an output", d, mesh.output(0, 0, 0));
        Due.is(name + "credits of a sender", 8 * d, mesh.arrival(0, 0));
        Due.is(name + "last channel", d, mesh.output(0, 4, 2 * v - 1));
        Due.is(name + "a channel too many", WormMesh.BAD, mesh.output(0, 4, 2 * v));
        Due.is(name + "last node", 0, mesh.request(w * h - 1, 0, true, 0, 1));
        // The way from the last node tells columns from rows.
        mesh.run(2);
        int channel = (w * h - 1) % v;
        int way = w > 1 ? 2 : h > 1 ? 4 : 0;
        Due.is(name + "way", 64 * way, mesh.lane(w * h - 1, 0, channel) / 64 * 64);
    }

    private static void emptyAtFirst() {
        WormMesh mesh = new WormMesh(3, 3, 3, 2);
        Due.is("ticks()", 0, mesh.ticks());
        Due.is("sent()", 0, mesh.sent());
        Due.is("replies()", 0, mesh.replies());
        Due.is("reply(0, 0)", WormMesh.BAD, mesh.reply(0, 0));
        for (int node = 0; node < 9; node++) {
            Due.is("waiting(" + node + ")", 0, mesh.waiting(node));
            Due.is("memory(" + node + ", 7)", 0, mesh.memory(node, 7));
            for (int channel = 0; channel < 4; channel++) {
                Due.is("arrival(" + node + ", " + channel + ")", 24, mesh.arrival(node, channel));
                for (int port = 0; port < 5; port++) {
                    Due.is("lane at " + node, 0, mesh.lane(node, port, channel));
                    Due.is("output at " + node, 3, mesh.output(node, port, channel));
                }
            }
        }
    }
}
