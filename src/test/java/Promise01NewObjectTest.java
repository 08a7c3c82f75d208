/** Promise 1: the measures are brought within their bounds, and all is empty at first. */
public final class Promise01NewObjectTest {
    private static final int[] MEASURES =
            {Integer.MIN_VALUE, -1, 0, 1, 2, 3, 4, 5, Integer.MAX_VALUE};

    public static void main(String[] args) {
        measures();
        columnsAndRows();
        emptyAtFirst();
        Due.end();
    }

    private static int within(int value, int most) {
        return value < 1 ? 1 : value > most ? most : value;
    }

    private static void measures() {
        for (int a : MEASURES) {
            for (int b : MEASURES) {
                WormMesh mesh = new WormMesh(a, b, 1, 1);
                Due.is("nodes of " + a + " x " + b, within(a, 3) * within(b, 3), mesh.nodes());
                mesh = new WormMesh(1, 1, a, b);
                int depth = within(a, 4);
                int channels = 2 * within(b, 2);
                Due.is("credits, depth " + a, depth, mesh.output(0, 0, 0));
                Due.is("sender, depth " + a, 8 * depth, mesh.arrival(0, 0));
                Due.is("last channel of " + b, depth, mesh.output(0, 4, channels - 1));
                Due.is("channel too many of " + b, WormMesh.BAD, mesh.output(0, 4, channels));
            }
        }
    }

    /** Width and height are told apart by the way that a packet to node 1 or 2 takes. */
    private static void columnsAndRows() {
        Due.is("3 x 1, to node 1", 1, firstWay(new WormMesh(3, 1, 2, 1), 1));
        Due.is("1 x 3, to node 1", 3, firstWay(new WormMesh(1, 3, 2, 1), 1));
        Due.is("3 x 2, to node 2", 1, firstWay(new WormMesh(3, 2, 2, 1), 2));
        Due.is("2 x 3, to node 2", 3, firstWay(new WormMesh(2, 3, 2, 1), 2));
        Due.is("9 x 2, to node 3", 3, firstWay(new WormMesh(9, 2, 2, 1), 3));
    }

    private static int firstWay(WormMesh mesh, int to) {
        mesh.request(0, to, false, 0, 0);
        mesh.run(2);
        return mesh.lane(0, 0, 0) / 64;
    }

    private static void emptyAtFirst() {
        WormMesh mesh = new WormMesh(3, 3, 3, 2);
        Due.is("ticks()", 0, mesh.ticks());
        Due.is("sent()", 0, mesh.sent());
        Due.is("replies()", 0, mesh.replies());
        Due.is("reply(0, 0)", WormMesh.BAD, mesh.reply(0, 0));
        for (int node = 0; node < 9; node++) {
            Due.is("waiting(" + node + ")", 0, mesh.waiting(node));
            Due.is("memory(" + node + ", 7)", 0, mesh.memory(node, 7));
            for (int channel = 0; channel < 4; channel++) {
                Due.is("arrival(" + node + ", " + channel + ")", 24, mesh.arrival(node, channel));
                for (int port = 0; port < 5; port++) {
                    Due.is("lane at " + node, 0, mesh.lane(node, port, channel));
                    Due.is("output at " + node, 3, mesh.output(node, port, channel));
                }
            }
        }
    }
}
