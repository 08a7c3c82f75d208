/** Promise 14: how many flits interfaces and routers sent in the latest tick. */
public final class Promise14SentTest {
    public static void main(String[] args) {
        tickByTick();
        manyAtOnce();
        Due.end();
    }

    /** A write to itself: the interface sends in 1 to 3 and 7, the router in 4 to 6 and 10. */
    private static void tickByTick() {
        WormMesh mesh = new WormMesh(1, 1, 4, 1);
        Due.is("before the first tick", 0, mesh.sent());
        mesh.request(0, 0, true, 0, 1);
        Due.is("before the first tick", 0, mesh.sent());
        int[] want = {1, 1, 1, 1, 1, 1, 1, 0, 0, 1, 0, 0};
        for (int i = 0; i < want.length; i++) {
            mesh.run(1);
            Due.is("sent() after tick " + (i + 1), want[i], mesh.sent());
            mesh.run(0);
            mesh.run(61);
            mesh.run(-1);
            Due.is("sent() after no tick", want[i], mesh.sent());
        }
        mesh.request(0, 0, true, 0, 1);
        mesh.run(7);
        Due.is("only the latest of seven ticks", 1, mesh.sent());
        mesh.run(2);
        Due.is("only the latest of two ticks", 0, mesh.sent());
    }

    /** Every node writes twice to its neighbour: in tick 4 all interfaces and all routers send. */
    private static void manyAtOnce() {
        WormMesh mesh = new WormMesh(2, 2, 4, 1);
        for (int node = 0; node < 4; node++) {
            mesh.request(node, node ^ 1, true, 0, 1);
            mesh.request(node, node ^ 1, true, 1, 1);
        }
        mesh.run(3);
        Due.is("four interfaces", 4, mesh.sent());
        mesh.run(1);
        Due.is("four interfaces and four routers", 8, mesh.sent());
        mesh.run(60);
        Due.is("all is done", 0, mesh.sent());
        Due.is("replies()", 8, mesh.replies());
    }
}
