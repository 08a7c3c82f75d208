/** What can be seen of a small mesh, as one text: a refused call must leave it as it was. */
final class State {
    private State() {
    }

    static String of(WormMesh mesh) {
        StringBuilder text = new StringBuilder();
        text.append(mesh.ticks()).append(' ').append(mesh.sent());
        text.append(' ').append(mesh.replies());
        for (int node = 0; node < mesh.nodes(); node++) {
            text.append("; ").append(mesh.waiting(node));
            for (int word = 0; word < 8; word++) {
                text.append(' ').append(mesh.memory(node, word));
            }
            for (int channel = 0; mesh.arrival(node, channel) != WormMesh.BAD; channel++) {
                addChannel(text, mesh, node, channel);
            }
        }
        return text.toString();
    }

    private static void addChannel(StringBuilder text, WormMesh mesh, int node, int channel) {
        text.append(", ").append(mesh.arrival(node, channel));
        for (int port = 0; port < 5; port++) {
            text.append(' ').append(mesh.lane(node, port, channel));
            text.append(' ').append(mesh.output(node, port, channel));
        }
    }
}
