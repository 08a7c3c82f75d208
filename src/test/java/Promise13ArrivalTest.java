/** Promise 13: flits of the arrival lanes, and credits of the senders. */
public final class Promise13ArrivalTest {
    public static void main(String[] args) {
        nodeOutOfItsBounds();
        channelOutOfItsBounds();
        lastOfEach();
        tickByTick();
        fullAndWithoutACredit();
        emptyAndWithoutACredit();
        Due.end();
    }

    /** "BAD when node ... is out of its bounds": in meshes of every size. */
    private static void nodeOutOfItsBounds() {
        Bounds.ofNodes("arrival", (mesh, node, port, channel) -> mesh.arrival(node, channel));
    }

    /** "BAD when ... channel is out of its bounds". */
    private static void channelOutOfItsBounds() {
        Bounds.ofChannels("arrival", (mesh, node, port, channel) -> mesh.arrival(node, channel));
    }

    private static void lastOfEach() {
        Due.is("arrival(0, 1)", 8, new WormMesh(1, 1, 1, 1).arrival(0, 1));
        Due.is("arrival(8, 3)", 32, new WormMesh(3, 3, 4, 2).arrival(8, 3));
        Due.is("arrival(5, 1)", 24, new WormMesh(3, 2, 3, 1).arrival(5, 1));
    }

    /** A write to itself: sent in ticks 1 to 3, moved on in 4 to 6, each credit a tick later. */
    private static void tickByTick() {
        WormMesh mesh = new WormMesh(1, 1, 4, 1);
        mesh.request(0, 0, true, 0, 1);
        new Watch(mesh)
                .arrival(0, 0, 24, 16, 8, 8, 16, 24, 32, 32, 32, 32, 32)
                .arrival(0, 1, 32, 32, 32, 32, 32, 32, 24, 24, 24, 24, 32)
                .run();
    }

    /** Held, the last flit of the first request and all that have room behind it stay there. */
    private static void fullAndWithoutACredit() {
        for (int depth = 1; depth <= 4; depth++) {
            WormMesh mesh = new WormMesh(1, 1, depth, 1);
            mesh.hold(0, true);
            for (int i = 0; i < 4; i++) {
                mesh.request(0, 0, true, i, 1);
            }
            mesh.run(60);
            Due.is("D flits and no credit, D = " + depth, depth, mesh.arrival(0, 0));
            mesh.hold(0, false);
            mesh.run(60);
            Due.is("no flit and D credits, D = " + depth, 8 * depth, mesh.arrival(0, 0));
            Due.is("replies(), D = " + depth, 4, mesh.replies());
        }
    }

    /** With D = 1 the sender's only credit is used with tick 1 and back with tick 5. */
    private static void emptyAndWithoutACredit() {
        WormMesh mesh = new WormMesh(1, 1, 1, 1);
        mesh.request(0, 0, false, 0, 0);
        new Watch(mesh).arrival(0, 0, 0, 0, 0, 0, 0, 0, 8).run();
    }
}
