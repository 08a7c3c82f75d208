/** Promise 6: how many ticks went by. */
public final class Promise06TicksTest {
    public static void main(String[] args) {
        noneAtFirst();
        runsAddUp();
        noTickGoesByElsewhere();
        asManyAsCanBe();
        Due.end();
    }

    private static void noneAtFirst() {
        Due.is("at first", 0, new WormMesh(1, 1, 1, 1).ticks());
    }

    private static void runsAddUp() {
        WormMesh mesh = new WormMesh(1, 1, 1, 1);
        int[] runs = {1, 0, 60, 59, 2};
        int[] due = {1, 1, 61, 120, 122};
        for (int i = 0; i < runs.length; i++) {
            mesh.run(runs[i]);
            Due.is("after run(" + runs[i] + ")", due[i], mesh.ticks());
        }
    }

    private static void noTickGoesByElsewhere() {
        WormMesh mesh = new WormMesh(1, 1, 1, 1);
        mesh.run(1);
        mesh.run(61);
        mesh.run(-1);
        Due.is("after refused runs", 1, mesh.ticks());
        mesh.run(0);
        Due.is("after run(0)", 1, mesh.ticks());
        mesh.request(0, 0, false, 0, 0);
        mesh.hold(0, true);
        mesh.nodes();
        mesh.sent();
        Due.is("after other calls", 1, mesh.ticks());
    }

    /** 511 runs of 60 ticks, and the 512th call. */
    private static void asManyAsCanBe() {
        WormMesh mesh = new WormMesh(1, 1, 1, 1);
        for (int i = 0; i < 511; i++) {
            mesh.run(60);
        }
        Due.is("after 511 long runs", 30660, mesh.ticks());
    }
}
