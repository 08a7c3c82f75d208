/** Promise 5: ticks go by, and the replies that became complete in them are counted. */
public final class Promise05RunTest {
    public static void main(String[] args) {
        tooSmall();
        tooLarge();
        noTick();
        oneTick();
        sixtyTicks();
        onlyThoseOfThisRun();
        severalInOneTick();
        oneLongRunIsManyShortOnes();
        Due.end();
    }

    private static WormMesh busy() {
        WormMesh mesh = new WormMesh(2, 1, 2, 1);
        mesh.request(0, 1, true, 0, 1);
        mesh.run(1);
        return mesh;
    }

    private static void isRefused(int n) {
        WormMesh mesh = busy();
        String before = State.of(mesh);
        Due.is("run(" + n + ")", WormMesh.BAD, mesh.run(n));
        Due.is("state after run(" + n + ")", before, State.of(mesh));
    }

    /** "BAD when n is not 0 .. 60": less than 0. */
    private static void tooSmall() {
        for (int wrong : new int[] {-1, -2, -60, Integer.MIN_VALUE}) {
            isRefused(wrong);
        }
    }

    /** "BAD when n is not 0 .. 60": more than 60. */
    private static void tooLarge() {
        for (int wrong : new int[] {61, 62, 120, Integer.MAX_VALUE}) {
            isRefused(wrong);
        }
    }

    /** 0 is within the bounds: no tick goes by, and nothing changes. */
    private static void noTick() {
        WormMesh mesh = busy();
        String before = State.of(mesh);
        Due.is("run(0)", 0, mesh.run(0));
        Due.is("state after no tick", before, State.of(mesh));
    }

    private static void oneTick() {
        WormMesh mesh = busy();
        Due.is("run(1)", 0, mesh.run(1));
        Due.is("ticks()", 2, mesh.ticks());
    }

    /** 60 is within the bounds. */
    private static void sixtyTicks() {
        WormMesh mesh = busy();
        Due.is("run(60)", 1, mesh.run(60));
        Due.is("ticks()", 61, mesh.ticks());
        Due.is("run(60)", 0, mesh.run(60));
        Due.is("ticks()", 121, mesh.ticks());
    }

    /** "how many replies became complete in them": not in the ticks before. */
    private static void onlyThoseOfThisRun() {
        WormMesh mesh = new WormMesh(1, 1, 4, 1);
        mesh.request(0, 0, false, 0, 0);
        Due.is("run(10)", 0, mesh.run(10));
        Due.is("run(1)", 1, mesh.run(1));
        Due.is("run(0)", 0, mesh.run(0));
        Due.is("run(60)", 0, mesh.run(60));
        mesh.request(0, 0, false, 0, 0);
        Due.is("run(11)", 1, mesh.run(11));
        Due.is("replies()", 2, mesh.replies());
    }

    private static void severalInOneTick() {
        WormMesh mesh = new WormMesh(3, 3, 4, 1);
        for (int node = 0; node < 9; node++) {
            mesh.request(node, node, node % 2 == 0, 0, 0);
        }
        Due.is("run(10)", 0, mesh.run(10));
        Due.is("run(1)", 9, mesh.run(1));
    }

    private static void oneLongRunIsManyShortOnes() {
        WormMesh slow = new WormMesh(2, 2, 1, 2);
        WormMesh fast = new WormMesh(2, 2, 1, 2);
        for (int i = 0; i < 16; i++) {
            slow.request(i % 4, i / 4, i % 3 == 0, i % 8, i);
            fast.request(i % 4, i / 4, i % 3 == 0, i % 8, i);
        }
        int complete = 0;
        for (int i = 0; i < 37; i++) {
            complete += slow.run(1);
        }
        Due.is("run(37)", complete, fast.run(37));
        Due.is("state after 37 ticks", State.of(slow), State.of(fast));
    }
}
