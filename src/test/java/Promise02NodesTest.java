/** Promise 2: the number of nodes, which no call changes. */
public final class Promise02NodesTest {
    public static void main(String[] args) {
        for (int width = 1; width <= 3; width++) {
            for (int height = 1; height <= 3; height++) {
                WormMesh mesh = new WormMesh(width, height, 2, 1);
                String size = width + " x " + height;
                Due.is("nodes() of " + size, width * height, mesh.nodes());
                Due.is("last node", 0, mesh.request(0, width * height - 1, false, 0, 0));
                Due.is("run(60)", 1, mesh.run(60));
                Due.is("nodes() later of " + size, width * height, mesh.nodes());
            }
        }
        Due.end();
    }
}
