/** Promise 9: the words of the nodes; 0 outside of them. */
public final class Promise09MemoryTest {
    public static void main(String[] args) {
        WormMesh mesh = new WormMesh(2, 1, 4, 1);
        for (int word = 0; word < 8; word++) {
            mesh.request(0, 0, true, word, 100 + word);
            mesh.request(0, 1, true, word, 200 + word);
            mesh.run(60);
        }
        Due.is("replies()", 16, mesh.replies());
        for (int word = 0; word < 8; word++) {
            Due.is("memory(0, " + word + ")", 100 + word, mesh.memory(0, word));
            Due.is("memory(1, " + word + ")", 200 + word, mesh.memory(1, word));
            Due.is("memory(-1, " + word + ")", 0, mesh.memory(-1, word));
            Due.is("memory(2, " + word + ")", 0, mesh.memory(2, word));
        }
        for (int wrong : new int[] {Integer.MIN_VALUE, -8, -1, 8, 9, 16, Integer.MAX_VALUE}) {
            Due.is("memory(0, " + wrong + ")", 0, mesh.memory(0, wrong));
            Due.is("memory(1, " + wrong + ")", 0, mesh.memory(1, wrong));
            Due.is("memory(" + wrong + ", 0)", 0, mesh.memory(wrong, 0));
        }
        writtenWithTheLastFlit();
        Due.end();
    }

    private static void writtenWithTheLastFlit() {
        WormMesh mesh = new WormMesh(1, 1, 4, 1);
        mesh.request(0, 0, true, 5, -1);
        mesh.run(6);
        Due.is("after two of three flits", 0, mesh.memory(0, 5));
        mesh.run(1);
        Due.is("after the last", -1, mesh.memory(0, 5));
        Due.is("no other word", 0, mesh.memory(0, 4));
    }
}
