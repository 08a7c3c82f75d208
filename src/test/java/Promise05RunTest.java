/** Promise 5: ticks go by, and the replies that became complete in them are counted. */
public final class Promise05RunTest {
    public static void main(String[] args) {
        bounds();
        counts();
        oneLongRunIsManyShortOnes();
        Due.end();
    }

    private static void bounds() {
        WormMesh mesh = new WormMesh(2, 1, 2, 1);
        mesh.request(0, 1, true, 0, 1);
        mesh.run(1);
        String before = State.of(mesh);
        for (int wrong : new int[] {Integer.MIN_VALUE, -2, -1, 61, 62, Integer.MAX_VALUE}) {
            Due.is("run(" + wrong + ")", WormMesh.BAD, mesh.run(wrong));
        }
        Due.is("run(0)", 0, mesh.run(0));
        Due.is("state after refusals and no tick", before, State.of(mesh));
        Due.is("run(60)", 1, mesh.run(60));
        Due.is("ticks()", 61, mesh.ticks());
    }

    /** Reads and writes of a node to itself are complete with tick 11. */
    private static void counts() {
        WormMesh mesh = new WormMesh(2, 1, 4, 1);
        mesh.request(0, 0, false, 0, 0);
        mesh.request(1, 1, true, 0, 0);
        Due.is("run(10)", 0, mesh.run(10));
        Due.is("run(1)", 2, mesh.run(1));
        Due.is("run(60)", 0, mesh.run(60));
        mesh.request(0, 0, false, 0, 0);
        Due.is("run(11)", 1, mesh.run(11));
        Due.is("replies()", 3, mesh.replies());
    }

    private static void oneLongRunIsManyShortOnes() {
        WormMesh slow = new WormMesh(2, 2, 1, 2);
        WormMesh fast = new WormMesh(2, 2, 1, 2);
        for (int i = 0; i < 16; i++) {
            slow.request(i % 4, i / 4, i % 3 == 0, i % 8, i);
            fast.request(i % 4, i / 4, i % 3 == 0, i % 8, i);
        }
        int complete = 0;
        for (int i = 0; i < 37; i++) {
            complete += slow.run(1);
        }
        Due.is("run(37)", complete, fast.run(37));
        Due.is("state after 37 ticks", State.of(slow), State.of(fast));
    }
}
