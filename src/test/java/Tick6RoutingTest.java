/** A tick, part 6: the way of a lane, and when it gets one. */
public final class Tick6RoutingTest {
    public static void main(String[] args) {
        waysFromEveryNode();
        columnsBeforeRows();
        local();
        notWithoutAFlit();
        onlyInStage0();
        theNextPacketAtOnce();
        replyRoutesToTheNodeThatAsked();
        Due.end();
    }

    private static int wayFrom(int from, int to) {
        int columns = to % 3 - from % 3;
        int rows = to / 3 - from / 3;
        if (columns != 0) {
            return columns > 0 ? 1 : 2;
        }
        return rows > 0 ? 3 : rows < 0 ? 4 : 0;
    }

    /** "EAST or WEST when the packet's column is greater or less ... NORTH or SOUTH ...". */
    private static void waysFromEveryNode() {
        for (int from = 0; from < 9; from++) {
            for (int to = 0; to < 9; to++) {
                WormMesh mesh = new WormMesh(3, 3, 4, 1);
                mesh.request(from, to, false, 0, 0);
                new Watch(mesh).lane(from, 0, 0, 0, 9 + 64 * wayFrom(from, to)).run();
            }
        }
    }

    /** From one corner to the other: two links EAST, then two NORTH, then LOCAL. */
    private static void columnsBeforeRows() {
        WormMesh mesh = new WormMesh(3, 3, 4, 1);
        mesh.request(0, 8, false, 0, 0);
        int[] node = {0, 1, 2, 5, 8};
        int[] port = {0, 2, 2, 4, 4};
        int[] way = {1, 1, 3, 3, 0};
        mesh.run(2);
        for (int i = 0; i < 5; i++) {
            Due.is("lane at " + node[i], 1 + 8 + 64 * way[i], mesh.lane(node[i], port[i], 0));
            mesh.run(3);
        }
    }

    /** "otherwise LOCAL": neither greater nor less. */
    private static void local() {
        for (int node = 0; node < 9; node++) {
            WormMesh mesh = new WormMesh(3, 3, 4, 1);
            mesh.request(node, node, false, 0, 0);
            mesh.run(2);
            Due.is("way of " + node, 1 + 8, mesh.lane(node, 0, 0));
        }
    }

    /** "that has a flit": an empty lane stays in stage 0, before a packet and after it. */
    private static void notWithoutAFlit() {
        WormMesh mesh = new WormMesh(2, 1, 4, 1);
        new Watch(mesh).lane(0, 0, 0, 0, 0).lane(1, 2, 0, 0, 0).run();
        mesh.request(0, 1, false, 0, 0);
        new Watch(mesh)
                .lane(0, 0, 0, 0, 73, 82, 81, 0, 0, 0, 0, 0)
                .lane(1, 2, 0, 0, 0, 0, 0, 9, 18, 17, 0, 0)
                .run();
    }

    /** "each input lane with stage 0": later flits of a packet change neither stage nor way. */
    private static void onlyInStage0() {
        WormMesh mesh = new WormMesh(2, 1, 1, 1);
        mesh.request(0, 1, true, 0, 0);
        new Watch(mesh).lane(0, 0, 0, 0, 73, 81, 80, 80, 81, 81, 80, 80, 0).run();
    }

    /** The last flit leaves in tick 6, the next packet's first flit is there: stage 1 at once. */
    private static void theNextPacketAtOnce() {
        WormMesh mesh = new WormMesh(2, 1, 4, 1);
        mesh.request(0, 1, true, 0, 1);
        mesh.request(0, 0, true, 0, 1);
        mesh.run(4);
        new Watch(mesh).lane(0, 0, 0, 2 + 16 + 64, 2 + 8, 3 + 16).run();
    }

    /** The packet of a reply goes to the node that asked: a write from 8 to 0 and back. */
    private static void replyRoutesToTheNodeThatAsked() {
        WormMesh mesh = new WormMesh(3, 3, 4, 1);
        mesh.request(8, 0, true, 0, 1);
        mesh.run(20);
        int[] node = {0, 1, 2, 5, 8};
        int[] port = {0, 2, 2, 4, 4};
        int[] way = {1, 1, 3, 3, 0};
        for (int i = 0; i < 5; i++) {
            Due.is("lane at " + node[i], 1 + 8 + 64 * way[i], mesh.lane(node[i], port[i], 1));
            mesh.run(3);
        }
    }
}
