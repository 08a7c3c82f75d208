/** Promise 10: how many requests and replies wait at a node. */
public final class Promise10WaitingTest {
    public static void main(String[] args) {
        bounds();
        requestsWait();
        repliesGoFirst();
        atMostTwoRepliesWait();
        Due.end();
    }

    private static void bounds() {
        WormMesh mesh = new WormMesh(2, 2, 1, 1);
        for (int wrong : new int[] {Integer.MIN_VALUE, -1, 4, 5, Integer.MAX_VALUE}) {
            Due.is("waiting(" + wrong + ")", WormMesh.BAD, mesh.waiting(wrong));
        }
        Due.is("waiting(3)", 0, mesh.waiting(3));
    }

    private static void requestsWait() {
        WormMesh mesh = new WormMesh(2, 1, 4, 1);
        for (int i = 1; i <= 4; i++) {
            mesh.request(1, 0, false, 0, 0);
            Due.is("waiting(1)", i, mesh.waiting(1));
        }
        Due.is("waiting(0)", 0, mesh.waiting(0));
        int[] afterTick = {4, 3, 3, 2};
        for (int i = 0; i < 4; i++) {
            mesh.run(1);
            Due.is("waiting(1) after tick " + (i + 1), afterTick[i], mesh.waiting(1));
        }
    }

    /** The read is served in tick 6; its reply has two flits and goes before a request. */
    private static void repliesGoFirst() {
        WormMesh mesh = new WormMesh(1, 1, 4, 1);
        mesh.request(0, 0, false, 0, 0);
        mesh.run(5);
        mesh.request(0, 0, false, 0, 0);
        mesh.run(1);
        Due.is("after the reply's first flit", 1 + 8, mesh.waiting(0));
        Due.is("arrival(0, 0)", 8 * 4, mesh.arrival(0, 0));
        Due.is("arrival(0, 1)", 8 * 3, mesh.arrival(0, 1));
        mesh.run(1);
        Due.is("after its last one", 1, mesh.waiting(0));
        Due.is("arrival(0, 0)", 8 * 4, mesh.arrival(0, 0));
        mesh.run(2);
        Due.is("after the request", 0, mesh.waiting(0));
    }

    /**
     * Node 2 is held until a flit is the last of its request in both arrival lanes and another
     * read has come up behind. Two replies then begin to wait in tick 61, and the first of them
     * gets its second credit in tick 65, too late for the third request's last flit.
     */
    private static void atMostTwoRepliesWait() {
        WormMesh mesh = new WormMesh(3, 1, 1, 2);
        mesh.hold(2, true);
        mesh.request(0, 2, false, 0, 0);
        mesh.request(1, 2, false, 0, 0);
        mesh.request(0, 2, false, 0, 0);
        mesh.run(60);
        Due.is("channel 0", 1 + 8, mesh.arrival(2, 0));
        Due.is("channel 1", 1 + 8, mesh.arrival(2, 1));
        Due.is("lane(2, 2, 0)", 1 + 16, mesh.lane(2, 2, 0));
        Due.is("lane(1, 2, 0)", 1 + 16 + 64, mesh.lane(1, 2, 0));
        mesh.hold(2, false);
        mesh.run(1);
        Due.is("both are served", 16, mesh.waiting(2));
        Due.is("that of channel 0 is first", 0, mesh.arrival(2, 2));
        Due.is("that of channel 1 is not", 8, mesh.arrival(2, 3));
        mesh.run(3);
        Due.is("no credit in tick 64", 16, mesh.waiting(2));
        Due.is("two flits are moved", 2, mesh.sent());
        mesh.run(1);
        Due.is("one has gone in tick 65", 8, mesh.waiting(2));
        Due.is("but after the taking", 1 + 8, mesh.arrival(2, 0));
        mesh.run(1);
        Due.is("served in tick 66", 16, mesh.waiting(2));
        Due.is("taken", 8, mesh.arrival(2, 0));
        Due.is("run(60)", 3, mesh.run(60));
        Due.is("waiting(2)", 0, mesh.waiting(2));
    }
}
