/** Terms, NODES: columns, rows, words, ports and links. */
public final class TermsNodesTest {
    public static void main(String[] args) {
        columnsAndRows();
        theEndOfARow();
        wordsAtFirst();
        wordsAreInts();
        portsWithoutANeighbour();
        linksOfNeighbours();
        Due.end();
    }

    private static int firstWay(WormMesh mesh, int from, int to) {
        mesh.request(from, to, false, 0, 0);
        mesh.run(2);
        return mesh.lane(from, 0, 0) / 64;
    }

    /** "node y * W + x stands in column x and row y": node 1 or 2 is to the east or the north. */
    private static void columnsAndRows() {
        Due.is("3 x 1, to node 1", 1, firstWay(new WormMesh(3, 1, 2, 1), 0, 1));
        Due.is("1 x 3, to node 1", 3, firstWay(new WormMesh(1, 3, 2, 1), 0, 1));
        Due.is("3 x 2, to node 2", 1, firstWay(new WormMesh(3, 2, 2, 1), 0, 2));
        Due.is("2 x 3, to node 2", 3, firstWay(new WormMesh(2, 3, 2, 1), 0, 2));
        Due.is("9 x 2, to node 3", 3, firstWay(new WormMesh(9, 2, 2, 1), 0, 3));
    }

    /** The last node of a row and the first of the next have following numbers, but no link. */
    private static void theEndOfARow() {
        Due.is("3 x 2, 2 to 3", 2, firstWay(new WormMesh(3, 2, 2, 1), 2, 3));
        Due.is("3 x 2, 3 to 2", 1, firstWay(new WormMesh(3, 2, 2, 1), 3, 2));
        Due.is("2 x 3, 3 to 4", 2, firstWay(new WormMesh(2, 3, 2, 1), 3, 4));
        Due.is("2 x 3, 4 to 3", 1, firstWay(new WormMesh(2, 3, 2, 1), 4, 3));
        // Over three links there and back, a write is complete with tick 11 + 3 * 6.
        WormMesh mesh = new WormMesh(3, 2, 4, 1);
        mesh.request(2, 3, true, 0, 1);
        Due.is("run(28)", 0, mesh.run(28));
        Due.is("run(1)", 1, mesh.run(1));
    }

    /** "Every node has 8 WORDS (ints, at first 0)". */
    private static void wordsAtFirst() {
        WormMesh mesh = new WormMesh(3, 3, 1, 1);
        for (int node = 0; node < 9; node++) {
            for (int word = 0; word < 8; word++) {
                Due.is("memory(" + node + ", " + word + ")", 0, mesh.memory(node, word));
            }
        }
    }

    /** "ints": the least and the greatest are kept as they are, in a word and in a reply. */
    private static void wordsAreInts() {
        for (int value : new int[] {Integer.MIN_VALUE, -1, 1, Integer.MAX_VALUE}) {
            WormMesh mesh = new WormMesh(2, 1, 4, 1);
            mesh.request(0, 1, true, 7, value);
            mesh.request(0, 1, true, 7, 0);
            mesh.run(13);
            Due.is("memory(1, 7)", value, mesh.memory(1, 7));
            mesh.run(60);
            Due.is("reply(1, 1)", value, mesh.reply(1, 1));
            Due.is("memory(1, 7)", 0, mesh.memory(1, 7));
        }
    }

    /** "a port without a neighbour is never used": its lanes stay empty, its outputs have D. */
    private static void portsWithoutANeighbour() {
        for (int width = 1; width <= 3; width++) {
            for (int height = 1; height <= 3; height++) {
                for (int step = 0; step < width * height; step++) {
                    for (int ticks = 1; ticks <= 40; ticks++) {
                        // A new mesh for each look: a look at all outer ports takes many calls.
                        WormMesh mesh = allAsk(width, height, step);
                        mesh.run(ticks);
                        lookAtOuterPorts(mesh, width, height);
                    }
                }
            }
        }
    }

    private static WormMesh allAsk(int width, int height, int step) {
        WormMesh mesh = new WormMesh(width, height, 3, 2);
        int nodes = width * height;
        for (int from = 0; from < nodes; from++) {
            mesh.request(from, (from + step) % nodes, step % 2 == 0, 0, 1);
        }
        return mesh;
    }

    private static void lookAtOuterPorts(WormMesh mesh, int width, int height) {
        for (int node = 0; node < width * height; node++) {
            boolean[] outer = {
                false,
                node % width == width - 1,
                node % width == 0,
                node / width == height - 1,
                node / width == 0};
            for (int port = 1; port < 5; port++) {
                for (int channel = 0; outer[port] && channel < 4; channel++) {
                    String place = port + " of " + node + " in " + width + " x " + height;
                    Due.is("lane at port " + place, 0, mesh.lane(node, port, channel));
                    Due.is("output at port " + place, 3, mesh.output(node, port, channel));
                }
            }
        }
    }

    /** "East and west of neighbours lie at one LINK, and so do north and south." */
    private static void linksOfNeighbours() {
        int[] to = {5, 3, 7, 1};
        int[] portThere = {2, 1, 4, 3};
        int[] portBack = {1, 2, 3, 4};
        for (int i = 0; i < 4; i++) {
            WormMesh mesh = new WormMesh(3, 3, 4, 1);
            mesh.request(4, to[i], true, 0, 1);
            mesh.run(5);
            for (int port = 0; port < 5; port++) {
                int want = port == portThere[i] ? 1 + 8 : 0;
                Due.is("port " + port + " of " + to[i], want, mesh.lane(to[i], port, 0));
            }
            mesh.run(10);
            for (int port = 0; port < 5; port++) {
                int want = port == portBack[i] ? 1 + 16 : 0;
                Due.is("port " + port + " of 4", want, mesh.lane(4, port, 1));
            }
        }
    }
}
