/** Promise 10: how many requests and replies wait at a node. */
public final class Promise10WaitingTest {
    public static void main(String[] args) {
        noSuchNode();
        noSuchNodeBesideOthers();
        requestsWait();
        repliesCountEight();
        fourRequestsAndTwoReplies();
        fourRequestsBesideTwoReplies();
        Due.end();
    }

    /** "BAD when there is no such node": in meshes of every size. */
    private static void noSuchNode() {
        Bounds.ofNodes("waiting", (mesh, node, port, channel) -> mesh.waiting(node));
    }

    /** The first and the last node have requests, but none of them is seen beyond them. */
    private static void noSuchNodeBesideOthers() {
        WormMesh mesh = new WormMesh(2, 2, 1, 1);
        mesh.request(0, 0, true, 0, 1);
        mesh.request(3, 0, true, 0, 1);
        Due.is("waiting(-1)", WormMesh.BAD, mesh.waiting(-1));
        Due.is("waiting(0)", 1, mesh.waiting(0));
        Due.is("waiting(3)", 1, mesh.waiting(3));
        Due.is("waiting(4)", WormMesh.BAD, mesh.waiting(4));
    }

    /**
     * From none to four, and, with two flits each and no credit in tick 7, to none again. With
     * tick 9 the first of them is served.
     */
    private static void requestsWait() {
        WormMesh mesh = new WormMesh(2, 1, 4, 1);
        Due.is("waiting(1)", 0, mesh.waiting(1));
        for (int i = 1; i <= 4; i++) {
            mesh.request(1, 0, false, 0, 0);
            Due.is("waiting(1)", i, mesh.waiting(1));
        }
        new Watch(mesh)
                .waiting(1, 4, 3, 3, 2, 2, 1, 1, 1, 0)
                .waiting(0, 0, 0, 0, 0, 0, 0, 0, 0, 8)
                .run();
    }

    /** The read is served in tick 6; its reply has two flits. */
    private static void repliesCountEight() {
        WormMesh mesh = new WormMesh(1, 1, 4, 1);
        mesh.request(0, 0, false, 0, 0);
        mesh.run(5);
        mesh.request(0, 0, false, 0, 0);
        new Watch(mesh).waiting(0, 1 + 8, 1, 1, 0).run();
    }

    /** Node 1 is held with the last flits of two reads, one in each channel. */
    private static WormMesh twoReadsHeld() {
        WormMesh mesh = new WormMesh(2, 1, 1, 2);
        mesh.hold(1, true);
        mesh.request(0, 1, false, 0, 0);
        mesh.request(1, 1, false, 0, 0);
        mesh.run(30);
        return mesh;
    }

    /** The most that can wait: two replies begin to wait with tick 31; one has sent a flit. */
    private static void fourRequestsAndTwoReplies() {
        WormMesh mesh = twoReadsHeld();
        for (int i = 0; i < 4; i++) {
            mesh.request(1, 0, false, 0, 0);
        }
        mesh.hold(1, false);
        mesh.run(1);
        Due.is("waiting(1)", 4 + 8 * 2, mesh.waiting(1));
        Due.is("a fifth", WormMesh.FULL, mesh.request(1, 0, false, 0, 0));
    }

    /** Replies that wait take no room from the requests. */
    private static void fourRequestsBesideTwoReplies() {
        WormMesh mesh = twoReadsHeld();
        mesh.hold(1, false);
        mesh.run(1);
        Due.is("waiting(1)", 16, mesh.waiting(1));
        for (int i = 0; i < 4; i++) {
            Due.is("request", 2 + i, mesh.request(1, 0, false, 0, 0));
        }
        Due.is("waiting(1)", 4 + 8 * 2, mesh.waiting(1));
        Due.is("a fifth", WormMesh.FULL, mesh.request(1, 0, false, 0, 0));
    }
}
