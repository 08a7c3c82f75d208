/** Promise 12: credits of the outputs, and whether they are taken. */
public final class Promise12OutputTest {
    public static void main(String[] args) {
        nodeOutOfItsBounds();
        portOutOfItsBounds();
        channelOutOfItsBounds();
        lastOfEach();
        tickByTick();
        takenWithoutACredit();
        notTakenWithoutACredit();
        heldUpPacketKeepsItsOutput();
        Due.end();
    }

    /** "BAD when node ... is out of its bounds": in meshes of every size. */
    private static void nodeOutOfItsBounds() {
        Bounds.ofNodes("output", WormMesh::output);
    }

    /** "BAD when ... port (0 .. 4) ... is out of its bounds". */
    private static void portOutOfItsBounds() {
        Bounds.ofPorts("output", WormMesh::output);
    }

    /** "BAD when ... channel is out of its bounds". */
    private static void channelOutOfItsBounds() {
        Bounds.ofChannels("output", WormMesh::output);
    }

    /** SOUTH of node 0 has no neighbour, but has an output all the same. */
    private static void lastOfEach() {
        Due.is("output(0, 4, 1)", 1, new WormMesh(1, 1, 1, 1).output(0, 4, 1));
        Due.is("output(8, 4, 3)", 4, new WormMesh(3, 3, 4, 2).output(8, 4, 3));
        Due.is("output(5, 4, 1)", 3, new WormMesh(3, 2, 3, 1).output(5, 4, 1));
    }

    /** A write to itself: granted in tick 3, moved in 4 to 6, each credit back two ticks later. */
    private static void tickByTick() {
        WormMesh mesh = new WormMesh(1, 1, 4, 1);
        mesh.request(0, 0, true, 0, 1);
        new Watch(mesh)
                .output(0, 0, 0, 4, 4, 12, 11, 10, 2, 3, 4, 4, 4, 4, 4)
                .output(0, 0, 1, 4, 4, 4, 4, 4, 4, 4, 4, 12, 3, 3, 4)
                .run();
    }

    /** 8 alone: with D = 1 the only credit is used with the first flit, in tick 4. */
    private static void takenWithoutACredit() {
        WormMesh mesh = new WormMesh(1, 1, 1, 1);
        mesh.request(0, 0, false, 0, 0);
        mesh.run(2);
        new Watch(mesh).output(0, 0, 0, 1 + 8, 8, 8).run();
    }

    /** 0: in tick 6 the last flit uses the credit that had come back. */
    private static void notTakenWithoutACredit() {
        WormMesh mesh = new WormMesh(1, 1, 1, 1);
        mesh.request(0, 0, false, 0, 0);
        mesh.run(5);
        new Watch(mesh).output(0, 0, 0, 0, 0, 1).run();
    }

    private static void heldUpPacketKeepsItsOutput() {
        WormMesh mesh = new WormMesh(2, 1, 1, 1);
        mesh.hold(1, true);
        mesh.request(0, 1, true, 0, 1);
        mesh.request(0, 1, true, 1, 2);
        mesh.run(60);
        Due.is("output(1, 0, 0)", 8, mesh.output(1, 0, 0));
        Due.is("output(0, 1, 0)", 8, mesh.output(0, 1, 0));
        Due.is("output(0, 0, 0)", 1, mesh.output(0, 0, 0));
        mesh.hold(1, false);
        Due.is("run(60)", 2, mesh.run(60));
        Due.is("output(1, 0, 0)", 1, mesh.output(1, 0, 0));
        Due.is("output(0, 1, 0)", 1, mesh.output(0, 1, 0));
    }
}
