/** Promise 13: flits of the arrival lanes, and credits of the senders. */
public final class Promise13ArrivalTest {
    public static void main(String[] args) {
        bounds();
        creditsTickByTick();
        aFullArrivalLane();
        Due.end();
    }

    private static void bounds() {
        WormMesh mesh = new WormMesh(2, 1, 2, 1);
        for (int wrong : new int[] {Integer.MIN_VALUE, -1, 2, 3, Integer.MAX_VALUE}) {
            Due.is("arrival(" + wrong + ", 0)", WormMesh.BAD, mesh.arrival(wrong, 0));
            Due.is("arrival(0, " + wrong + ")", WormMesh.BAD, mesh.arrival(0, wrong));
        }
        Due.is("arrival(1, 1)", 16, mesh.arrival(1, 1));
    }

    /** A write to itself: sent in ticks 1 to 3, moved on in 4 to 6, each credit a tick later. */
    private static void creditsTickByTick() {
        WormMesh mesh = new WormMesh(1, 1, 4, 1);
        mesh.request(0, 0, true, 0, 1);
        int[] ofRequest = {3, 2, 1, 1, 2, 3, 4, 4, 4, 4, 4};
        int[] ofReply = {4, 4, 4, 4, 4, 4, 3, 3, 3, 3, 4};
        for (int i = 0; i < ofRequest.length; i++) {
            mesh.run(1);
            String after = " after tick " + (i + 1);
            Due.is("arrival(0, 0)" + after, 8 * ofRequest[i], mesh.arrival(0, 0));
            Due.is("arrival(0, 1)" + after, 8 * ofReply[i], mesh.arrival(0, 1));
        }
    }

    /** Held, the last flit of the first request and two or more of the next stay in the lane. */
    private static void aFullArrivalLane() {
        for (int depth = 1; depth <= 4; depth++) {
            WormMesh mesh = new WormMesh(1, 1, depth, 1);
            mesh.hold(0, true);
            for (int i = 0; i < 4; i++) {
                mesh.request(0, 0, true, i, 1);
            }
            mesh.run(60);
            Due.is("arrival lane and sender, depth " + depth, depth, mesh.arrival(0, 0));
            Due.is("input lane, depth " + depth, depth, mesh.lane(0, 0, 0) % 8);
            mesh.hold(0, false);
            mesh.run(60);
            Due.is("empty again, depth " + depth, 8 * depth, mesh.arrival(0, 0));
            Due.is("replies(), depth " + depth, 4, mesh.replies());
        }
    }
}
