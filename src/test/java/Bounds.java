/** The calls that look at a place, with one argument out of its bounds, and just within them. */
final class Bounds {
    interface Look {
        int at(WormMesh mesh, int node, int port, int channel);
    }

    private Bounds() {
    }

    static void ofNodes(String call, Look look) {
        for (int width = 1; width <= 3; width++) {
            for (int height = 1; height <= 3; height++) {
                WormMesh mesh = new WormMesh(width, height, 1, 1);
                String what = call + " in " + width + " x " + height + ", node ";
                int nodes = width * height;
                for (int wrong : outOf(nodes)) {
                    Due.is(what + wrong, WormMesh.BAD, look.at(mesh, wrong, 0, 0));
                    Due.is(what + wrong, WormMesh.BAD, look.at(mesh, wrong, 4, 1));
                }
                for (int node = 0; node < nodes; node++) {
                    Due.is(what + node, true, look.at(mesh, node, 0, 0) != WormMesh.BAD);
                    Due.is(what + node, true, look.at(mesh, node, 4, 1) != WormMesh.BAD);
                }
            }
        }
    }

    static void ofPorts(String call, Look look) {
        WormMesh mesh = new WormMesh(3, 3, 1, 2);
        for (int node = 0; node < 9; node++) {
            String what = call + " at node " + node + ", port ";
            for (int wrong : outOf(5)) {
                Due.is(what + wrong, WormMesh.BAD, look.at(mesh, node, wrong, 0));
            }
            for (int port = 0; port < 5; port++) {
                Due.is(what + port, true, look.at(mesh, node, port, 0) != WormMesh.BAD);
            }
        }
    }

    /** 0 .. 1 with V = 1, 0 .. 3 with V = 2. */
    static void ofChannels(String call, Look look) {
        for (int kinds = 1; kinds <= 2; kinds++) {
            WormMesh mesh = new WormMesh(2, 2, 1, kinds);
            for (int node = 0; node < 4; node++) {
                String what = call + " at node " + node + ", V = " + kinds + ", channel ";
                for (int wrong : outOf(2 * kinds)) {
                    Due.is(what + wrong, WormMesh.BAD, look.at(mesh, node, 2, wrong));
                }
                for (int channel = 0; channel < 2 * kinds; channel++) {
                    Due.is(what + channel, true, look.at(mesh, node, 2, channel) != WormMesh.BAD);
                }
            }
        }
    }

    /** Too small and too large for 0 .. count - 1, just so and far out. */
    static int[] outOf(int count) {
        return new int[] {Integer.MIN_VALUE, -count, -1, count, count + 1, Integer.MAX_VALUE};
    }
}
