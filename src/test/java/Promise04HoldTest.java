/** Promise 4: a node is held from now on, or not any more. */
public final class Promise04HoldTest {
    public static void main(String[] args) {
        noSuchNode();
        noSuchNodeHoldsNone();
        answersTrue();
        heldFromNowOn();
        notAnyMore();
        heldTwice();
        neverHeld();
        heldAfterTheLastFlitWasTaken();
        heldAndReleasedWithoutATick();
        heldNodeAsksAndGetsReplies();
        othersGoOn();
        Due.end();
    }

    /** "false when there is no such node": in meshes of every size. */
    private static void noSuchNode() {
        for (int height = 1; height <= 3; height++) {
            for (int width = 1; width <= 3; width++) {
                WormMesh mesh = new WormMesh(width, height, 1, 1);
                int nodes = width * height;
                for (int wrong : Bounds.outOf(nodes)) {
                    Due.is("hold(" + wrong + ", true)", false, mesh.hold(wrong, true));
                    Due.is("hold(" + wrong + ", false)", false, mesh.hold(wrong, false));
                }
                Due.is("hold(0, true)", true, mesh.hold(0, true));
                Due.is("hold(last, true)", true, mesh.hold(nodes - 1, true));
            }
        }
    }

    private static void noSuchNodeHoldsNone() {
        WormMesh mesh = new WormMesh(2, 1, 4, 1);
        mesh.hold(1, true);
        for (int wrong : new int[] {-1, 2}) {
            mesh.hold(wrong, true);
            mesh.hold(wrong, false);
            mesh.hold(wrong, true);
        }
        mesh.request(1, 0, true, 0, 8);
        mesh.request(0, 1, true, 0, 8);
        Due.is("node 0 is not held, node 1 is", 1, mesh.run(60));
        mesh.hold(2, false);
        mesh.hold(-1, false);
        Due.is("node 1 is still held", 0, mesh.run(60));
    }

    /** "A node is held from now on, or not any more: true", whatever it was before. */
    private static void answersTrue() {
        WormMesh mesh = new WormMesh(3, 1, 1, 1);
        for (int node = 0; node < 3; node++) {
            Due.is("not held, not any more", true, mesh.hold(node, false));
            Due.is("held", true, mesh.hold(node, true));
            Due.is("held again", true, mesh.hold(node, true));
            Due.is("not any more", true, mesh.hold(node, false));
        }
    }

    /** The three flits of a write to itself come in with ticks 5, 6 and 7; the last is kept. */
    private static WormMesh heldWrite() {
        WormMesh mesh = new WormMesh(1, 1, 4, 1);
        mesh.hold(0, true);
        mesh.request(0, 0, true, 6, 42);
        mesh.run(7);
        return mesh;
    }

    private static void heldFromNowOn() {
        WormMesh mesh = heldWrite();
        Due.is("the last flit is not taken", 1 + 8 * 4, mesh.arrival(0, 0));
        Due.is("run(10)", 0, mesh.run(10));
        Due.is("nor later", 1 + 8 * 4, mesh.arrival(0, 0));
        Due.is("its credit is not given back", 3, mesh.output(0, 0, 0));
        Due.is("memory(0, 6)", 0, mesh.memory(0, 6));
        Due.is("waiting(0)", 0, mesh.waiting(0));
        Due.is("sent()", 0, mesh.sent());
    }

    private static void notAnyMore() {
        WormMesh mesh = heldWrite();
        mesh.hold(0, false);
        Due.is("memory(0, 6), before a tick", 0, mesh.memory(0, 6));
        mesh.run(1);
        Due.is("memory(0, 6), after it", 42, mesh.memory(0, 6));
        Due.is("the reply is sent at once", 1, mesh.sent());
        Due.is("run(3)", 0, mesh.run(3));
        Due.is("run(1)", 1, mesh.run(1));
        Due.is("reply(0, 2)", 12, mesh.reply(0, 2));
    }

    private static void heldTwice() {
        WormMesh mesh = heldWrite();
        mesh.hold(0, true);
        Due.is("still held", 0, mesh.run(20));
        mesh.hold(0, false);
        Due.is("once is enough", 1, mesh.run(20));
    }

    private static void neverHeld() {
        WormMesh mesh = new WormMesh(1, 1, 4, 1);
        mesh.hold(0, false);
        mesh.request(0, 0, true, 6, 42);
        Due.is("run(11)", 1, mesh.run(11));
    }

    private static void heldAfterTheLastFlitWasTaken() {
        WormMesh mesh = new WormMesh(1, 1, 4, 1);
        mesh.request(0, 0, true, 6, 42);
        mesh.run(7);
        mesh.hold(0, true);
        Due.is("too late to hold", 42, mesh.memory(0, 6));
        Due.is("the reply is no request", 1, mesh.run(4));
    }

    private static void heldAndReleasedWithoutATick() {
        WormMesh mesh = new WormMesh(1, 1, 4, 1);
        mesh.request(0, 0, true, 6, 42);
        mesh.run(6);
        mesh.hold(0, true);
        mesh.hold(0, false);
        Due.is("run(5)", 1, mesh.run(5));
    }

    private static void heldNodeAsksAndGetsReplies() {
        WormMesh mesh = new WormMesh(2, 1, 1, 1);
        mesh.hold(0, true);
        mesh.request(0, 1, true, 1, 5);
        mesh.request(0, 1, false, 1, 0);
        Due.is("run(60)", 2, mesh.run(60));
        Due.is("reply(0, 1)", 0, mesh.reply(0, 1));
        Due.is("reply(1, 1)", 5, mesh.reply(1, 1));
    }

    private static void othersGoOn() {
        WormMesh mesh = new WormMesh(2, 2, 2, 1);
        mesh.hold(3, true);
        mesh.hold(2, true);
        mesh.hold(2, false);
        mesh.request(0, 3, true, 0, 1);
        mesh.request(1, 2, true, 0, 1);
        mesh.request(2, 1, true, 0, 1);
        mesh.request(3, 0, true, 0, 1);
        Due.is("all but the request to 3", 3, mesh.run(60));
        Due.is("memory(3, 0)", 0, mesh.memory(3, 0));
        mesh.hold(3, false);
        Due.is("and now that one", 1, mesh.run(60));
        Due.is("memory(3, 0)", 1, mesh.memory(3, 0));
    }
}
