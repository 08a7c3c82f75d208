/** Promise 11: flits, stage and way of the input lanes. */
public final class Promise11LaneTest {
    public static void main(String[] args) {
        nodeOutOfItsBounds();
        portOutOfItsBounds();
        channelOutOfItsBounds();
        lastOfEach();
        tickByTick();
        anEmptyLaneInStage2();
        wayIs0InStage0();
        aFullLaneToTheSouth();
        Due.end();
    }

    /** "BAD when node ... is out of its bounds": in meshes of every size. */
    private static void nodeOutOfItsBounds() {
        Bounds.ofNodes("lane", WormMesh::lane);
    }

    /** "BAD when ... port (0 .. 4) ... is out of its bounds". */
    private static void portOutOfItsBounds() {
        Bounds.ofPorts("lane", WormMesh::lane);
    }

    /** "BAD when ... channel is out of its bounds". */
    private static void channelOutOfItsBounds() {
        Bounds.ofChannels("lane", WormMesh::lane);
    }

    private static void lastOfEach() {
        Due.is("lane(0, 4, 1)", 0, new WormMesh(1, 1, 1, 1).lane(0, 4, 1));
        Due.is("lane(8, 4, 3)", 0, new WormMesh(3, 3, 1, 2).lane(8, 4, 3));
        Due.is("lane(5, 4, 1)", 0, new WormMesh(3, 2, 1, 1).lane(5, 4, 1));
    }

    /** A write to the east neighbour with room for all. */
    private static void tickByTick() {
        WormMesh mesh = new WormMesh(2, 1, 4, 1);
        mesh.request(0, 1, true, 0, 1);
        new Watch(mesh)
                .lane(0, 0, 0, 0, 73, 82, 82, 81, 0, 0, 0, 0, 0)
                .lane(1, 2, 0, 0, 0, 0, 0, 9, 18, 18, 17, 0, 0)
                .lane(1, 0, 1, 0, 0, 0, 0, 0, 0, 0, 0, 0, 0)
                .run();
    }

    /** No flit, stage 2 and a way: the flits of a packet come four ticks apart. */
    private static void anEmptyLaneInStage2() {
        WormMesh mesh = new WormMesh(1, 2, 1, 1);
        mesh.request(1, 0, false, 0, 0);
        new Watch(mesh).lane(1, 0, 0, 0, 1 + 8 + 256, 1 + 16 + 256, 16 + 256).run();
    }

    /** "64 times its way (0 in stage 0)": after a packet to each side, the lane is as at first. */
    private static void wayIs0InStage0() {
        for (int to : new int[] {5, 3, 7, 1}) {
            WormMesh mesh = new WormMesh(3, 3, 4, 1);
            mesh.request(4, to, false, 0, 0);
            mesh.run(4);
            Due.is("a way in stage 2", true, mesh.lane(4, 0, 0) >= 64);
            mesh.run(1);
            Due.is("stage 0 after a packet to " + to, 0, mesh.lane(4, 0, 0));
        }
    }

    /** The greatest answer there is: 4 flits, stage 2, way 4. */
    private static void aFullLaneToTheSouth() {
        WormMesh mesh = new WormMesh(1, 3, 4, 1);
        mesh.hold(0, true);
        for (int i = 0; i < 20; i++) {
            mesh.request(2, 0, true, 0, 1);
            mesh.run(3);
        }
        Due.is("lane(1, 3, 0)", 4 + 8 * 2 + 64 * 4, mesh.lane(1, 3, 0));
    }
}
