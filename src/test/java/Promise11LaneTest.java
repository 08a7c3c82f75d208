/** Promise 11: flits, stage and way of the input lanes. */
public final class Promise11LaneTest {
    public static void main(String[] args) {
        bounds();
        ways();
        neighbours();
        stages();
        channels();
        portTurns();
        Due.end();
    }

    private static void bounds() {
        WormMesh mesh = new WormMesh(2, 1, 1, 1);
        for (int wrong : new int[] {Integer.MIN_VALUE, -1, 2, 3, Integer.MAX_VALUE}) {
            Due.is("lane(" + wrong + ", 0, 0)", WormMesh.BAD, mesh.lane(wrong, 0, 0));
            Due.is("lane(0, 0, " + wrong + ")", WormMesh.BAD, mesh.lane(0, 0, wrong));
        }
        for (int wrong : new int[] {Integer.MIN_VALUE, -1, 5, 6, Integer.MAX_VALUE}) {
            Due.is("lane(0, " + wrong + ", 0)", WormMesh.BAD, mesh.lane(0, wrong, 0));
        }
        Due.is("lane(1, 4, 1)", 0, mesh.lane(1, 4, 1));
    }

    /** From the middle node: columns go before rows. */
    private static void ways() {
        int[] way = {2, 4, 1, 2, 0, 1, 2, 3, 1};
        for (int to = 0; to < 9; to++) {
            WormMesh mesh = new WormMesh(3, 3, 4, 1);
            mesh.request(4, to, false, 0, 0);
            mesh.run(1);
            Due.is("on its way to the lane, to " + to, 0, mesh.lane(4, 0, 0));
            mesh.run(1);
            Due.is("way to " + to, 1 + 8 + 64 * way[to], mesh.lane(4, 0, 0));
        }
    }

    /** What leaves to the east comes in from the west, and so on; the reply goes back. */
    private static void neighbours() {
        int[] to = {5, 3, 7, 1};
        int[] portThere = {2, 1, 4, 3};
        int[] portBack = {1, 2, 3, 4};
        for (int i = 0; i < 4; i++) {
            WormMesh mesh = new WormMesh(3, 3, 4, 1);
            mesh.request(4, to[i], true, 0, 1);
            mesh.run(5);
            for (int port = 0; port < 5; port++) {
                int want = port == portThere[i] ? 1 + 8 : 0;
                Due.is("port " + port + " of " + to[i], want, mesh.lane(to[i], port, 0));
            }
            mesh.run(10);
            for (int port = 0; port < 5; port++) {
                int want = port == portBack[i] ? 1 + 16 : 0;
                Due.is("port " + port + " of 4", want, mesh.lane(4, port, 1));
            }
        }
    }

    /** A write to the east neighbour with room for all, tick by tick. */
    private static void stages() {
        WormMesh mesh = new WormMesh(2, 1, 4, 1);
        mesh.request(0, 1, true, 0, 1);
        int[] here = {0, 73, 82, 82, 81, 0, 0, 0, 0, 0};
        int[] there = {0, 0, 0, 0, 9, 18, 18, 17, 0, 0};
        for (int i = 0; i < here.length; i++) {
            mesh.run(1);
            String after = " after tick " + (i + 1);
            Due.is("lane(0, 0, 0)" + after, here[i], mesh.lane(0, 0, 0));
            Due.is("lane(1, 2, 0)" + after, there[i], mesh.lane(1, 2, 0));
        }
        // The next packet is routed in the tick in which the last flit before it leaves.
        mesh = new WormMesh(2, 1, 4, 1);
        mesh.request(0, 1, true, 0, 1);
        mesh.request(0, 0, true, 0, 1);
        mesh.run(5);
        Due.is("last flit of the first, first of the second", 2 + 16 + 64, mesh.lane(0, 0, 0));
        mesh.run(1);
        Due.is("the second is routed", 2 + 8, mesh.lane(0, 0, 0));
    }

    /** The sum of the two nodes tells the channel; replies have the upper half of them. */
    private static void channels() {
        for (int from = 0; from < 3; from++) {
            for (int to = 0; to < 3; to++) {
                WormMesh mesh = new WormMesh(3, 1, 4, 2);
                mesh.request(from, to, false, 0, 0);
                mesh.run(2);
                String pair = from + " to " + to;
                int kind = (from + to) % 2;
                for (int channel = 0; channel < 4; channel++) {
                    int want = channel == kind ? 1 : 0;
                    Due.is("request " + pair, want, mesh.lane(from, 0, channel) % 8);
                }
                // A read is served in tick 6, and three ticks later for each link on its way.
                mesh.run(5 + 3 * Math.abs(from - to));
                for (int channel = 0; channel < 4; channel++) {
                    int want = channel == kind + 2 ? 1 : 0;
                    Due.is("reply " + pair, want, mesh.lane(to, 0, channel) % 8);
                }
            }
        }
    }

    /**
     * After the hold, in tick 44, LOCAL of node 1 has a flit of a request in channel 0 and one of
     * a reply in channel 2 that are both ready; channel 0 moved last, so channel 2 is named.
     */
    private static void portTurns() {
        WormMesh mesh = new WormMesh(2, 1, 1, 2);
        mesh.hold(1, true);
        mesh.request(1, 1, false, 0, 0);
        mesh.request(0, 1, false, 0, 0);
        mesh.request(1, 1, false, 0, 0);
        mesh.run(40);
        Due.is("held back: lane(1, 0, 0)", 1 + 16, mesh.lane(1, 0, 0));
        Due.is("held back: waiting(1)", 1, mesh.waiting(1));
        mesh.hold(1, false);
        mesh.run(1);
        Due.is("tick 41: lane(1, 0, 0)", 1 + 16, mesh.lane(1, 0, 0));
        mesh.run(1);
        Due.is("tick 42: lane(1, 0, 0)", 16, mesh.lane(1, 0, 0));
        Due.is("tick 42: lane(1, 0, 2)", 1 + 8, mesh.lane(1, 0, 2));
        mesh.run(2);
        Due.is("tick 44: lane(1, 0, 0)", 1 + 16, mesh.lane(1, 0, 0));
        Due.is("tick 44: lane(1, 0, 2)", 16, mesh.lane(1, 0, 2));
        mesh.run(1);
        Due.is("tick 45: lane(1, 0, 0)", 0, mesh.lane(1, 0, 0));
    }
}
