/** Promise 14: how many flits interfaces and routers sent in the latest tick. */
public final class Promise14SentTest {
    public static void main(String[] args) {
        beforeTheFirstTick();
        tickByTick();
        onlyTheLatestTick();
        noTickLeavesItAsItWas();
        byInterfacesAndRouters();
        Due.end();
    }

    private static void beforeTheFirstTick() {
        WormMesh mesh = new WormMesh(1, 1, 4, 1);
        Due.is("at first", 0, mesh.sent());
        mesh.request(0, 0, true, 0, 1);
        mesh.run(0);
        Due.is("before the first tick", 0, mesh.sent());
    }

    /** A write to itself: the interface sends in 1 to 3 and 7, the router in 4 to 6 and 10. */
    private static void tickByTick() {
        WormMesh mesh = new WormMesh(1, 1, 4, 1);
        mesh.request(0, 0, true, 0, 1);
        new Watch(mesh).sent(1, 1, 1, 1, 1, 1, 1, 0, 0, 1, 0, 0).run();
    }

    /** "in the latest tick": not in all ticks of a run. */
    private static void onlyTheLatestTick() {
        WormMesh mesh = new WormMesh(1, 1, 4, 1);
        mesh.request(0, 0, true, 0, 1);
        mesh.run(7);
        Due.is("the latest of seven ticks", 1, mesh.sent());
        mesh.run(2);
        Due.is("the latest of two ticks", 0, mesh.sent());
    }

    private static void noTickLeavesItAsItWas() {
        WormMesh mesh = new WormMesh(1, 1, 4, 1);
        mesh.request(0, 0, true, 0, 1);
        mesh.run(1);
        mesh.run(0);
        Due.is("after run(0)", 1, mesh.sent());
        mesh.run(61);
        mesh.run(-1);
        Due.is("after refused runs", 1, mesh.sent());
        mesh.request(0, 0, true, 0, 1);
        mesh.hold(0, true);
        Due.is("after other calls", 1, mesh.sent());
    }

    /** Every node writes twice to its neighbour: in tick 4 all interfaces and all routers send. */
    private static void byInterfacesAndRouters() {
        WormMesh mesh = new WormMesh(2, 2, 4, 1);
        for (int node = 0; node < 4; node++) {
            mesh.request(node, node ^ 1, true, 0, 1);
            mesh.request(node, node ^ 1, true, 1, 1);
        }
        mesh.run(2);
        new Watch(mesh).sent(4, 8).run();
        mesh.run(60);
        Due.is("all is done", 0, mesh.sent());
        Due.is("replies()", 8, mesh.replies());
    }
}
