/** Promise 2: the number of nodes, which no call changes. */
public final class Promise02NodesTest {
    public static void main(String[] args) {
        for (int width = 0; width <= 4; width++) {
            for (int height = 0; height <= 4; height++) {
                int nodes = Math.min(3, Math.max(1, width)) * Math.min(3, Math.max(1, height));
                WormMesh mesh = new WormMesh(width, height, 2, 1);
                String size = width + " x " + height;
                Due.is("nodes() of " + size, nodes, mesh.nodes());
                Due.is("to the last node", 0, mesh.request(0, nodes - 1, false, 0, 0));
                Due.is("to a node too many", WormMesh.BAD, mesh.request(0, nodes, false, 0, 0));
                Due.is("run(60)", 1, mesh.run(60));
                Due.is("nodes() later of " + size, nodes, mesh.nodes());
            }
        }
        Due.end();
    }
}
