/** Promise 8: number, word and tick of the complete replies, in their order. */
public final class Promise08ReplyTest {
    public static void main(String[] args) {
        words();
        bounds();
        inOneTickByNodes();
        byOutputTurns();
        Due.end();
    }

    /** All requests of a node to itself take one channel, so they are served in their order. */
    private static void words() {
        WormMesh mesh = new WormMesh(1, 1, 4, 2);
        mesh.request(0, 0, true, 2, 7);
        mesh.request(0, 0, true, 2, -8);
        mesh.request(0, 0, false, 2, 99);
        mesh.request(0, 0, false, 3, 99);
        mesh.run(60);
        int[] word = {0, 7, -8, 0};
        for (int i = 0; i < 4; i++) {
            Due.is("reply(" + i + ", 0)", i, mesh.reply(i, 0));
            Due.is("reply(" + i + ", 1)", word[i], mesh.reply(i, 1));
        }
        Due.is("reply(0, 2)", 11, mesh.reply(0, 2));
        Due.is("a read writes nothing", -8, mesh.memory(0, 2));
        mesh.request(0, 0, true, 2, 1);
        mesh.run(60);
        Due.is("the word of an older reply stays", -8, mesh.reply(2, 1));
    }

    private static void bounds() {
        WormMesh mesh = new WormMesh(2, 1, 2, 1);
        mesh.hold(1, true);
        mesh.request(0, 1, true, 0, 3);
        mesh.request(0, 0, true, 0, 3);
        mesh.run(60);
        Due.is("only one is complete", 1, mesh.replies());
        Due.is("reply(0, 0)", 1, mesh.reply(0, 0));
        for (int wrong : new int[] {Integer.MIN_VALUE, -1, 1, 2, 399, 400, Integer.MAX_VALUE}) {
            Due.is("reply(" + wrong + ", 0)", WormMesh.BAD, mesh.reply(wrong, 0));
            Due.is("reply(" + wrong + ", 1)", WormMesh.BAD, mesh.reply(wrong, 1));
            Due.is("reply(" + wrong + ", 2)", WormMesh.BAD, mesh.reply(wrong, 2));
        }
        for (int wrong : new int[] {Integer.MIN_VALUE, -1, 3, 4, Integer.MAX_VALUE}) {
            Due.is("reply(0, " + wrong + ")", WormMesh.BAD, mesh.reply(0, wrong));
        }
    }

    private static void inOneTickByNodes() {
        WormMesh mesh = new WormMesh(3, 1, 2, 1);
        mesh.request(2, 2, false, 0, 0);
        mesh.request(0, 0, false, 0, 0);
        mesh.request(1, 1, false, 0, 0);
        Due.is("run(11)", 3, mesh.run(11));
        int[] number = {1, 2, 0};
        for (int i = 0; i < 3; i++) {
            Due.is("reply(" + i + ", 0)", number[i], mesh.reply(i, 0));
            Due.is("reply(" + i + ", 2)", 11, mesh.reply(i, 2));
        }
    }

    /**
     * Requests from east and west ask for LOCAL of node 1 in one tick. The output's turn is at
     * port 0, so EAST is first; after a grant to EAST it is at WEST, so WEST is first.
     */
    private static void byOutputTurns() {
        WormMesh mesh = new WormMesh(3, 1, 4, 1);
        mesh.request(0, 1, false, 0, 0);
        mesh.request(2, 1, false, 0, 0);
        mesh.run(60);
        Due.is("EAST first", 1, mesh.reply(0, 0));
        Due.is("then WEST", 0, mesh.reply(1, 0));

        mesh = new WormMesh(3, 1, 4, 1);
        mesh.request(2, 1, false, 0, 0);
        mesh.run(60);
        mesh.request(0, 1, false, 0, 0);
        mesh.request(2, 1, false, 0, 0);
        mesh.run(60);
        Due.is("WEST first", 1, mesh.reply(1, 0));
        Due.is("then EAST", 2, mesh.reply(2, 0));
    }
}
