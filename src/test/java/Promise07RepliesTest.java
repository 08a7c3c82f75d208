/** Promise 7: how many replies are complete, each of them counted with its last flit. */
public final class Promise07RepliesTest {
    public static void main(String[] args) {
        noneAtFirst();
        countedWithTheLastFlit();
        theyStay();
        heldRequestsHaveNone();
        Due.end();
    }

    private static void noneAtFirst() {
        WormMesh mesh = new WormMesh(1, 1, 4, 1);
        Due.is("at first", 0, mesh.replies());
        mesh.request(0, 0, false, 0, 0);
        Due.is("a request is no reply", 0, mesh.replies());
    }

    /** Both flits of the reply are taken, in ticks 10 and 11. */
    private static void countedWithTheLastFlit() {
        WormMesh mesh = new WormMesh(1, 1, 4, 1);
        mesh.request(0, 0, false, 0, 0);
        mesh.run(9);
        new Watch(mesh).replies(0, 1).run();
    }

    private static void theyStay() {
        WormMesh mesh = new WormMesh(1, 1, 4, 1);
        mesh.request(0, 0, false, 0, 0);
        mesh.run(60);
        mesh.run(60);
        Due.is("it stays", 1, mesh.replies());
        mesh.request(0, 0, true, 0, 0);
        mesh.request(0, 0, false, 0, 0);
        mesh.run(60);
        Due.is("two more", 3, mesh.replies());
        mesh.run(61);
        mesh.run(0);
        Due.is("after no tick", 3, mesh.replies());
    }

    private static void heldRequestsHaveNone() {
        WormMesh mesh = new WormMesh(2, 1, 1, 1);
        mesh.hold(1, true);
        mesh.request(0, 1, true, 0, 0);
        mesh.run(60);
        Due.is("held", 0, mesh.replies());
    }
}
