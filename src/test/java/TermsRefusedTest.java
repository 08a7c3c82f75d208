import java.util.function.Consumer;

/**
 * "A call that is refused changes nothing": of two meshes that are used alike, one gets refused
 * calls before the first and after every tick, too. Both must stay the same to the end.
 */
public final class TermsRefusedTest {
    public static void main(String[] args) {
        requestWithABadNode();
        requestWithABadWord();
        requestWithoutRoom();
        requestBeyondFourHundred();
        holdOfNoNode();
        runOutOfBounds();
        looksOutOfBounds();
        Due.end();
    }

    private static void changesNothing(String what, Consumer<WormMesh> refused) {
        WormMesh plain = newMesh();
        WormMesh other = newMesh();
        for (int tick = 1; tick <= 30; tick++) {
            refused.accept(other);
            Due.is("run(1), " + what, plain.run(1), other.run(1));
            if (tick % 15 == 0) {
                Due.is("state in tick " + tick + ", " + what, State.of(plain), State.of(other));
            }
        }
        plain.hold(1, false);
        other.hold(1, false);
        Due.is("run(60), " + what, plain.run(60), other.run(60));
        Due.is("state at the end, " + what, State.of(plain), State.of(other));
        int next = plain.request(1, 1, false, 0, 0);
        Due.is("next number, " + what, next, other.request(1, 1, false, 0, 0));
    }

    /** Node 1 is held, so node 0 stays full: four of its requests are waiting all the time. */
    private static WormMesh newMesh() {
        WormMesh mesh = new WormMesh(2, 1, 1, 1);
        mesh.hold(1, true);
        for (int i = 0; i < 4; i++) {
            mesh.request(0, 1, true, i, 5);
            mesh.request(1, 0, false, i, 5);
        }
        mesh.run(20);
        for (int i = mesh.waiting(0) % 8; i < 4; i++) {
            mesh.request(0, 1, true, 7, 6);
        }
        return mesh;
    }

    private static void requestWithABadNode() {
        changesNothing("bad nodes", mesh -> {
            Due.is("from", WormMesh.BAD, mesh.request(2, 0, true, 0, 9));
            Due.is("to", WormMesh.BAD, mesh.request(1, -1, true, 0, 9));
        });
    }

    private static void requestWithABadWord() {
        changesNothing("bad words", mesh -> {
            Due.is("word 8", WormMesh.BAD, mesh.request(1, 0, true, 8, 9));
            Due.is("word -1", WormMesh.BAD, mesh.request(1, 0, false, -1, 9));
        });
    }

    private static void requestWithoutRoom() {
        changesNothing("a full node",
                mesh -> Due.is("request", WormMesh.FULL, mesh.request(0, 1, true, 0, 9)));
    }

    private static void requestBeyondFourHundred() {
        WormMesh mesh = new WormMesh(3, 3, 4, 1);
        for (int made = 0; made < 400; made++) {
            mesh.request(made % 9, made % 9, true, 0, 5);
            if (made % 36 == 35) {
                mesh.run(60);
            }
        }
        mesh.run(60);
        Due.is("request", WormMesh.FULL, mesh.request(4, 4, true, 1, 9));
        Due.is("waiting(4)", 0, mesh.waiting(4));
        Due.is("run(60)", 0, mesh.run(60));
        Due.is("sent()", 0, mesh.sent());
        Due.is("memory(4, 1)", 0, mesh.memory(4, 1));
        Due.is("replies()", 400, mesh.replies());
    }

    private static void holdOfNoNode() {
        changesNothing("no node to hold", mesh -> {
            Due.is("hold(2, true)", false, mesh.hold(2, true));
            Due.is("hold(-1, true)", false, mesh.hold(-1, true));
            Due.is("hold(2, false)", false, mesh.hold(2, false));
        });
    }

    private static void runOutOfBounds() {
        changesNothing("wrong runs", mesh -> {
            Due.is("run(61)", WormMesh.BAD, mesh.run(61));
            Due.is("run(-1)", WormMesh.BAD, mesh.run(-1));
        });
    }

    private static void looksOutOfBounds() {
        changesNothing("wrong looks", mesh -> {
            Due.is("reply", WormMesh.BAD, mesh.reply(400, 0));
            Due.is("memory", 0, mesh.memory(1, 8));
            Due.is("waiting", WormMesh.BAD, mesh.waiting(2));
            Due.is("lane", WormMesh.BAD, mesh.lane(0, 5, 0));
            Due.is("output", WormMesh.BAD, mesh.output(0, 0, 2));
            Due.is("arrival", WormMesh.BAD, mesh.arrival(0, -1));
        });
    }
}
