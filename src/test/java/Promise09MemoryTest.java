/** Promise 9: the words of the nodes; 0 outside of them. */
public final class Promise09MemoryTest {
    public static void main(String[] args) {
        everyWord();
        nodeTooSmall();
        nodeTooLarge();
        wordTooSmall();
        wordTooLarge();
        bothWrong();
        writtenWithTheLastFlit();
        Due.end();
    }

    /** Two nodes, none of whose words is 0. */
    private static WormMesh written() {
        WormMesh mesh = new WormMesh(2, 1, 4, 1);
        for (int word = 0; word < 8; word++) {
            mesh.request(0, 0, true, word, 100 + word);
            mesh.request(0, 1, true, word, 200 + word);
            mesh.run(60);
        }
        Due.is("replies()", 16, mesh.replies());
        return mesh;
    }

    private static void everyWord() {
        WormMesh mesh = written();
        for (int word = 0; word < 8; word++) {
            Due.is("memory(0, " + word + ")", 100 + word, mesh.memory(0, word));
            Due.is("memory(1, " + word + ")", 200 + word, mesh.memory(1, word));
        }
    }

    private static void allAreZero(int node) {
        WormMesh mesh = written();
        for (int word = 0; word < 8; word++) {
            Due.is("memory(" + node + ", " + word + ")", 0, mesh.memory(node, word));
        }
    }

    /** "0 when node ... is out of its bounds". */
    private static void nodeTooSmall() {
        allAreZero(-1);
        allAreZero(-2);
        allAreZero(Integer.MIN_VALUE);
    }

    private static void nodeTooLarge() {
        allAreZero(2);
        allAreZero(3);
        allAreZero(Integer.MAX_VALUE);
    }

    /** "0 when ... word is out of its bounds": not a word of the node before. */
    private static void wordTooSmall() {
        WormMesh mesh = written();
        for (int wrong : new int[] {-1, -2, -8, Integer.MIN_VALUE}) {
            Due.is("memory(0, " + wrong + ")", 0, mesh.memory(0, wrong));
            Due.is("memory(1, " + wrong + ")", 0, mesh.memory(1, wrong));
        }
    }

    /** "0 when ... word is out of its bounds": not a word of the node behind. */
    private static void wordTooLarge() {
        WormMesh mesh = written();
        for (int wrong : new int[] {8, 9, 15, 16, Integer.MAX_VALUE}) {
            Due.is("memory(0, " + wrong + ")", 0, mesh.memory(0, wrong));
            Due.is("memory(1, " + wrong + ")", 0, mesh.memory(1, wrong));
        }
    }

    private static void bothWrong() {
        WormMesh mesh = written();
        Due.is("memory(-1, 8)", 0, mesh.memory(-1, 8));
        Due.is("memory(2, -8)", 0, mesh.memory(2, -8));
        Due.is("memory(2, -1)", 0, mesh.memory(2, -1));
    }

    private static void writtenWithTheLastFlit() {
        WormMesh mesh = new WormMesh(1, 1, 4, 1);
        mesh.request(0, 0, true, 5, -1);
        mesh.run(5);
        new Watch(mesh).memory(0, 5, 0, -1).memory(0, 4, 0, 0).memory(0, 6, 0, 0).run();
    }
}
