/** Promise 3: requests get numbers, wait behind the others, and may be refused. */
public final class Promise03RequestTest {
    public static void main(String[] args) {
        numbersOverAllNodes();
        waitsBehindTheOthers();
        fromIsNoNode();
        toIsNoNode();
        wordOutOfItsBounds();
        firstAndLastWord();
        anyValue();
        fourRequestsWait();
        aRequestSentInPartStillWaits();
        otherNodesHaveRoom();
        refusedRequestsGetNoNumber();
        badBeforeFull();
        fourHundredWereMade();
        everyPairOfNodes();
        Due.end();
    }

    /** "Answers its number (0, 1, .. over all nodes)." */
    private static void numbersOverAllNodes() {
        WormMesh mesh = new WormMesh(2, 2, 2, 2);
        Due.is("first", 0, mesh.request(3, 0, true, 0, 5));
        Due.is("second", 1, mesh.request(0, 3, false, 7, 0));
        Due.is("third", 2, mesh.request(1, 1, true, 7, -5));
        Due.is("fourth", 3, mesh.request(3, 3, true, 7, -5));
        Due.is("waiting(0)", 1, mesh.waiting(0));
        Due.is("waiting(1)", 1, mesh.waiting(1));
        Due.is("waiting(2)", 0, mesh.waiting(2));
        Due.is("waiting(3)", 2, mesh.waiting(3));
    }

    /** "the request waits at from, behind the others": the second goes when the first has gone. */
    private static void waitsBehindTheOthers() {
        WormMesh mesh = new WormMesh(2, 1, 4, 2);
        mesh.request(0, 1, false, 0, 0);
        mesh.request(0, 0, false, 0, 0);
        mesh.request(0, 1, false, 0, 0);
        new Watch(mesh)
                .waiting(0, 3, 2, 2, 1, 1, 0)
                .waiting(1, 0, 0, 0, 0, 0, 0)
                .arrival(0, 0, 32, 32, 24, 16, 16, 16)
                .arrival(0, 1, 24, 16, 16, 16, 16, 16)
                .run();
    }

    /** "BAD when from ... is no node": in meshes of every size. */
    private static void fromIsNoNode() {
        for (int rows = 1; rows <= 3; rows++) {
            for (int wrong : Bounds.outOf(3 * rows)) {
                WormMesh mesh = new WormMesh(3, rows, 1, 1);
                Due.is("from " + wrong, WormMesh.BAD, mesh.request(wrong, 0, false, 0, 0));
                Due.is("from the last node", 0, mesh.request(3 * rows - 1, 0, false, 0, 0));
            }
        }
    }

    /** "BAD when ... to is no node": in meshes of every size. */
    private static void toIsNoNode() {
        for (int rows = 1; rows <= 3; rows++) {
            for (int wrong : Bounds.outOf(3 * rows)) {
                WormMesh mesh = new WormMesh(3, rows, 1, 1);
                Due.is("to " + wrong, WormMesh.BAD, mesh.request(0, wrong, false, 0, 0));
                Due.is("to the last node", 0, mesh.request(0, 3 * rows - 1, false, 0, 0));
            }
        }
    }

    /** "BAD when ... word is not 0 .. 7", to read or to write. */
    private static void wordOutOfItsBounds() {
        WormMesh mesh = new WormMesh(2, 1, 2, 1);
        for (int wrong : Bounds.outOf(8)) {
            Due.is("write word " + wrong, WormMesh.BAD, mesh.request(0, 1, true, wrong, 1));
            Due.is("read word " + wrong, WormMesh.BAD, mesh.request(0, 1, false, wrong, 1));
        }
        Due.is("waiting(0)", 0, mesh.waiting(0));
    }

    private static void firstAndLastWord() {
        WormMesh mesh = new WormMesh(2, 1, 4, 1);
        Due.is("word 0", 0, mesh.request(0, 1, true, 0, 10));
        Due.is("word 7", 1, mesh.request(0, 1, true, 7, 17));
        mesh.run(60);
        Due.is("memory(1, 0)", 10, mesh.memory(1, 0));
        Due.is("memory(1, 7)", 17, mesh.memory(1, 7));
    }

    /** No value is out of bounds; that of a read is not looked at. */
    private static void anyValue() {
        int[] values = {Integer.MIN_VALUE, -2, -1, 0, Integer.MAX_VALUE};
        for (int value : values) {
            WormMesh mesh = new WormMesh(1, 1, 4, 1);
            Due.is("write " + value, 0, mesh.request(0, 0, true, 0, value));
            Due.is("read", 1, mesh.request(0, 0, false, 0, value));
            Due.is("read", 2, mesh.request(0, 0, false, 1, value));
            mesh.run(60);
            Due.is("memory(0, 0)", value, mesh.memory(0, 0));
            Due.is("memory(0, 1)", 0, mesh.memory(0, 1));
            Due.is("reply(1, 1)", value, mesh.reply(1, 1));
        }
    }

    /** "FULL when 4 requests wait at from": the fourth is taken, the fifth is not. */
    private static void fourRequestsWait() {
        WormMesh mesh = new WormMesh(2, 1, 2, 1);
        for (int i = 0; i < 4; i++) {
            Due.is("request " + i, i, mesh.request(1, 0, false, i, 0));
        }
        Due.is("a fifth", WormMesh.FULL, mesh.request(1, 0, false, 4, 0));
        Due.is("a fifth to itself", WormMesh.FULL, mesh.request(1, 1, true, 4, 9));
        Due.is("waiting(1)", 4, mesh.waiting(1));
        Due.is("run(60)", 4, mesh.run(60));
    }

    /** A read waits until its second flit is sent, a write until its third. */
    private static void aRequestSentInPartStillWaits() {
        WormMesh mesh = new WormMesh(1, 1, 4, 1);
        mesh.request(0, 0, false, 0, 0);
        mesh.request(0, 0, true, 0, 3);
        mesh.request(0, 0, false, 0, 0);
        mesh.request(0, 0, false, 0, 0);
        mesh.run(1);
        Due.is("one flit of the read is sent", WormMesh.FULL, mesh.request(0, 0, false, 0, 0));
        mesh.run(1);
        Due.is("the read waits no more", 4, mesh.request(0, 0, false, 0, 0));
        mesh.run(2);
        Due.is("two flits of the write are sent", WormMesh.FULL, mesh.request(0, 0, false, 0, 0));
        mesh.run(1);
        Due.is("the write waits no more", 5, mesh.request(0, 0, false, 0, 0));
    }

    private static void otherNodesHaveRoom() {
        WormMesh mesh = new WormMesh(3, 3, 1, 1);
        for (int i = 0; i < 36; i++) {
            Due.is("request " + i, i, mesh.request(i / 4, 8 - i / 4, false, 0, 0));
        }
        for (int node = 0; node < 9; node++) {
            Due.is("a fifth at " + node, WormMesh.FULL, mesh.request(node, 0, false, 0, 0));
        }
    }

    private static void refusedRequestsGetNoNumber() {
        WormMesh mesh = new WormMesh(2, 1, 1, 1);
        mesh.request(2, 0, false, 0, 0);
        mesh.request(0, 0, false, 8, 0);
        for (int i = 0; i < 4; i++) {
            mesh.request(0, 0, false, 0, 0);
        }
        mesh.request(0, 0, false, 0, 0);
        Due.is("the fifth that is taken", 4, mesh.request(1, 0, false, 0, 0));
    }

    /** "refusals are tested in the order in which they are named": a full node, wrong arguments. */
    private static void badBeforeFull() {
        WormMesh mesh = new WormMesh(2, 1, 2, 1);
        for (int i = 0; i < 4; i++) {
            mesh.request(1, 0, false, 0, 0);
        }
        Due.is("to too large", WormMesh.BAD, mesh.request(1, 2, false, 4, 0));
        Due.is("to too small", WormMesh.BAD, mesh.request(1, -1, false, 4, 0));
        Due.is("word too large", WormMesh.BAD, mesh.request(1, 0, false, 8, 0));
        Due.is("word too small", WormMesh.BAD, mesh.request(1, 0, false, -1, 0));
        Due.is("nothing wrong", WormMesh.FULL, mesh.request(1, 0, false, 7, 0));
    }

    /** "or 400 were made": the 400th is taken, no other, though none waits; BAD goes first. */
    private static void fourHundredWereMade() {
        WormMesh mesh = new WormMesh(3, 3, 2, 2);
        int complete = 0;
        for (int made = 0; made < 400; made++) {
            int node = made % 9;
            Due.is("request " + made, made, mesh.request(node, node, true, made / 9 % 4, made));
            if (made % 36 == 35) {
                // Refused requests do not count as made.
                Due.is("a fifth", WormMesh.FULL, mesh.request(node, 0, true, 0, 0));
                complete += mesh.run(60);
            }
        }
        complete += mesh.run(60);
        Due.is("all are complete", 400, complete);
        for (int node = 0; node < 9; node++) {
            Due.is("one more at " + node, WormMesh.FULL, mesh.request(node, 0, false, 0, 0));
            Due.is("waiting(" + node + ")", 0, mesh.waiting(node));
        }
        Due.is("from", WormMesh.BAD, mesh.request(9, 0, false, 0, 0));
        Due.is("to", WormMesh.BAD, mesh.request(0, -1, false, 0, 0));
        Due.is("word", WormMesh.BAD, mesh.request(0, 0, false, 8, 0));
        Due.is("the word of the last", 399, mesh.memory(3, 0));
    }

    private static void everyPairOfNodes() {
        for (int from = 0; from < 9; from++) {
            for (int to = 0; to < 9; to++) {
                WormMesh mesh = new WormMesh(3, 3, 1 + (from + to) % 4, 2);
                int value = 1000 * from + to + 1;
                String pair = from + " to " + to;
                mesh.request(from, to, true, to % 8, value);
                mesh.request(from, to, false, to % 8, 1);
                Due.is("run(60), " + pair, 2, mesh.run(60));
                Due.is("memory, " + pair, value, mesh.memory(to, to % 8));
                Due.is("word of the write, " + pair, 0, mesh.reply(0, 1));
                Due.is("word of the read, " + pair, value, mesh.reply(1, 1));
            }
        }
    }
}
