/** Promise 3: requests get numbers, are refused in the order that is named, and do their work. */
public final class Promise03RequestTest {
    private static final int LEAST = Integer.MIN_VALUE;
    private static final int MOST = Integer.MAX_VALUE;

    public static void main(String[] args) {
        numbersOverAllNodes();
        outOfBounds();
        fullAtFour();
        roomAfterTheLastFlit();
        fullAtFourHundred();
        everyPairOfNodes();
        Due.end();
    }

    private static void numbersOverAllNodes() {
        WormMesh mesh = new WormMesh(2, 2, 2, 2);
        Due.is("first", 0, mesh.request(3, 0, true, 0, 5));
        Due.is("second", 1, mesh.request(0, 3, false, 7, 0));
        Due.is("third", 2, mesh.request(1, 1, true, 7, -5));
        Due.is("waiting(3)", 1, mesh.waiting(3));
        Due.is("waiting(0)", 1, mesh.waiting(0));
        Due.is("waiting(1)", 1, mesh.waiting(1));
        Due.is("waiting(2)", 0, mesh.waiting(2));
    }

    private static void outOfBounds() {
        WormMesh mesh = new WormMesh(2, 1, 2, 1);
        String before = State.of(mesh);
        for (int wrong : new int[] {LEAST, -1, 2, 3, 9, MOST}) {
            Due.is("from " + wrong, WormMesh.BAD, mesh.request(wrong, 0, false, 0, 0));
            Due.is("to " + wrong, WormMesh.BAD, mesh.request(0, wrong, false, 0, 0));
        }
        for (int wrong : new int[] {LEAST, -1, 8, 9, MOST}) {
            Due.is("word " + wrong, WormMesh.BAD, mesh.request(0, 1, true, wrong, 1));
        }
        Due.is("state after refusals", before, State.of(mesh));
        Due.is("the first that is taken", 0, mesh.request(1, 0, true, 7, 1));
    }

    private static void fullAtFour() {
        WormMesh mesh = new WormMesh(2, 1, 2, 1);
        for (int i = 0; i < 4; i++) {
            Due.is("request " + i, i, mesh.request(1, 0, false, i, 0));
        }
        String before = State.of(mesh);
        Due.is("a fifth at 1", WormMesh.FULL, mesh.request(1, 0, false, 4, 0));
        Due.is("a fifth to itself", WormMesh.FULL, mesh.request(1, 1, true, 4, 9));
        Due.is("BAD goes before FULL: to", WormMesh.BAD, mesh.request(1, 2, false, 4, 0));
        Due.is("BAD goes before FULL: word", WormMesh.BAD, mesh.request(1, 0, false, 8, 0));
        Due.is("state after refusals", before, State.of(mesh));
        Due.is("another node has room", 4, mesh.request(0, 1, false, 0, 0));
    }

    /** A read has 2 flits, a write 3, and a packet waits until its last flit is sent. */
    private static void roomAfterTheLastFlit() {
        WormMesh mesh = new WormMesh(1, 1, 4, 1);
        mesh.request(0, 0, false, 0, 0);
        mesh.request(0, 0, true, 0, 3);
        mesh.request(0, 0, false, 0, 0);
        mesh.request(0, 0, false, 0, 0);
        mesh.run(1);
        Due.is("one flit of the read is sent", WormMesh.FULL, mesh.request(0, 0, false, 0, 0));
        mesh.run(1);
        Due.is("the read waits no more", 3, mesh.waiting(0));
        Due.is("request", 4, mesh.request(0, 0, false, 0, 0));
        mesh.run(2);
        Due.is("two flits of the write are sent", WormMesh.FULL, mesh.request(0, 0, false, 0, 0));
        mesh.run(1);
        Due.is("the write waits no more", 3, mesh.waiting(0));
        Due.is("request", 5, mesh.request(0, 0, false, 0, 0));
    }

    private static void fullAtFourHundred() {
        WormMesh mesh = new WormMesh(3, 3, 2, 2);
        int made = 0;
        int complete = 0;
        for (int round = 0; round < 12; round++) {
            for (int i = 0; i < 36 && made < 400; i++) {
                Due.is("request " + made, made, mesh.request(i % 9, i % 9, true, i / 9, made));
                made++;
            }
            complete += mesh.run(60);
        }
        Due.is("all are complete", 400, complete);
        Due.is("replies()", 400, mesh.replies());
        Due.is("waiting(0)", 0, mesh.waiting(0));
        for (int node = 0; node < 9; node++) {
            Due.is("400 were made", WormMesh.FULL, mesh.request(node, 0, false, 0, 0));
        }
        Due.is("BAD goes before FULL", WormMesh.BAD, mesh.request(0, 0, false, 8, 0));
        Due.is("BAD goes before FULL", WormMesh.BAD, mesh.request(9, 0, false, 0, 0));
        Due.is("waiting(0)", 0, mesh.waiting(0));
        Due.is("a word of the last round", 396 + 3, mesh.memory(3, 0));
    }

    private static void everyPairOfNodes() {
        for (int from = 0; from < 9; from++) {
            for (int to = 0; to < 9; to++) {
                WormMesh mesh = new WormMesh(3, 3, 1 + (from + to) % 4, 2);
                int value = from % 2 == 0 ? LEAST + to : MOST - to;
                String pair = from + " to " + to;
                mesh.request(from, to, true, to % 8, value);
                mesh.request(from, to, false, to % 8, 1);
                Due.is("run(60), " + pair, 2, mesh.run(60));
                Due.is("memory, " + pair, value, mesh.memory(to, to % 8));
                Due.is("word of the write, " + pair, 0, mesh.reply(0, 1));
                Due.is("word of the read, " + pair, value, mesh.reply(1, 1));
            }
        }
    }
}
