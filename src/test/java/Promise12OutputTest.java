/** Promise 12: credits of the outputs, and whether they are taken. */
public final class Promise12OutputTest {
    public static void main(String[] args) {
        bounds();
        creditsTickByTick();
        heldUpPacketKeepsItsOutput();
        outputPortTurns();
        Due.end();
    }

    private static void bounds() {
        WormMesh mesh = new WormMesh(2, 1, 3, 1);
        for (int wrong : new int[] {Integer.MIN_VALUE, -1, 2, 3, Integer.MAX_VALUE}) {
            Due.is("output(" + wrong + ", 0, 0)", WormMesh.BAD, mesh.output(wrong, 0, 0));
            Due.is("output(0, 0, " + wrong + ")", WormMesh.BAD, mesh.output(0, 0, wrong));
        }
        for (int wrong : new int[] {Integer.MIN_VALUE, -1, 5, 6, Integer.MAX_VALUE}) {
            Due.is("output(0, " + wrong + ", 0)", WormMesh.BAD, mesh.output(0, wrong, 0));
        }
        Due.is("a port without a neighbour", 3, mesh.output(1, 4, 1));
    }

    /** A write to itself: granted in tick 3, moved in 4 to 6, each credit back two ticks later. */
    private static void creditsTickByTick() {
        WormMesh mesh = new WormMesh(1, 1, 4, 1);
        mesh.request(0, 0, true, 0, 1);
        int[] ofRequest = {4, 4, 12, 11, 10, 2, 3, 4, 4, 4, 4, 4};
        int[] ofReply = {4, 4, 4, 4, 4, 4, 4, 4, 12, 3, 3, 4};
        for (int i = 0; i < ofRequest.length; i++) {
            mesh.run(1);
            String after = " after tick " + (i + 1);
            Due.is("output(0, 0, 0)" + after, ofRequest[i], mesh.output(0, 0, 0));
            Due.is("output(0, 0, 1)" + after, ofReply[i], mesh.output(0, 0, 1));
        }
    }

    private static void heldUpPacketKeepsItsOutput() {
        WormMesh mesh = new WormMesh(2, 1, 1, 1);
        mesh.hold(1, true);
        mesh.request(0, 1, true, 0, 1);
        mesh.request(0, 1, true, 1, 2);
        mesh.run(60);
        Due.is("output(1, 0, 0)", 8, mesh.output(1, 0, 0));
        Due.is("output(0, 1, 0)", 8, mesh.output(0, 1, 0));
        Due.is("output(0, 0, 0)", 1, mesh.output(0, 0, 0));
        mesh.hold(1, false);
        Due.is("run(60)", 2, mesh.run(60));
        Due.is("output(1, 0, 0)", 1, mesh.output(1, 0, 0));
        Due.is("output(0, 1, 0)", 1, mesh.output(0, 1, 0));
    }

    /**
     * A read from node 0 (WEST, channel 1) and one of node 1 to itself (LOCAL, channel 0) have
     * both got an output of port LOCAL in tick 6. The port takes LOCAL, WEST, LOCAL, WEST.
     */
    private static void outputPortTurns() {
        WormMesh mesh = new WormMesh(2, 1, 4, 2);
        mesh.request(0, 1, false, 0, 0);
        mesh.run(3);
        mesh.request(1, 1, false, 0, 0);
        mesh.run(3);
        int[] ofLocal = {12, 11, 11, 3, 3};
        int[] ofWest = {12, 12, 11, 11, 3};
        for (int i = 0; i < ofLocal.length; i++) {
            String after = " after tick " + (i + 6);
            Due.is("output(1, 0, 0)" + after, ofLocal[i], mesh.output(1, 0, 0));
            Due.is("output(1, 0, 1)" + after, ofWest[i], mesh.output(1, 0, 1));
            mesh.run(1);
        }
    }
}
