import java.util.ArrayDeque;
import java.util.ArrayList;
import java.util.List;

/**
 * A second reading of the document, written with objects for all that it names and without a
 * thought of room or speed. The random runs compare the program with it.
 */
final class PlainMesh {
    private static final int BAD = -1;
    private static final int FULL = -2;

    private static final class Packet {
        int number;
        boolean reply;
        boolean write;
        int from;
        int to;
        int word;
        int value;
        int channel;
        int flits;
        int flitsSent;
    }

    private record Flit(Packet packet, boolean last) {
    }

    private record Done(int number, int word, int tick) {
    }

    private static final class Lane {
        final ArrayDeque<Flit> flits = new ArrayDeque<>();
        Gate source;
        int stage;
        int way;
    }

    /** An output or a sender. */
    private static final class Gate {
        int credits;
        boolean taken;
        int turn;
        Lane goal;
    }

    private final class Node {
        final int x;
        final int y;
        final int[] words = new int[8];
        boolean held;
        final Lane[][] input = new Lane[5][2 * v];
        final Gate[][] output = new Gate[5][2 * v];
        final Lane[] arrival = new Lane[2 * v];
        final Gate[] sender = new Gate[2 * v];
        final List<Packet> requests = new ArrayList<>();
        final List<Packet> replies = new ArrayList<>();
        final int[] turnOfInputPort = new int[5];
        final int[] turnOfOutputPort = new int[5];

        Node(int x, int y) {
            this.x = x;
            this.y = y;
            for (int c = 0; c < 2 * v; c++) {
                for (int p = 0; p < 5; p++) {
                    input[p][c] = new Lane();
                    output[p][c] = newGate();
                }
                arrival[c] = new Lane();
                sender[c] = newGate();
                join(sender[c], input[0][c]);
                join(output[0][c], arrival[c]);
            }
        }
    }

    private final int w;
    private final int h;
    private final int d;
    private final int v;
    private final List<Node> nodes = new ArrayList<>();
    private final List<Done> done = new ArrayList<>();
    private List<Runnable> comingIn = new ArrayList<>();
    private int made;
    private int ticks;
    private int sent;

    PlainMesh(int width, int height, int depth, int channels) {
        w = Math.min(3, Math.max(1, width));
        h = Math.min(3, Math.max(1, height));
        d = Math.min(4, Math.max(1, depth));
        v = Math.min(2, Math.max(1, channels));
        for (int y = 0; y < h; y++) {
            for (int x = 0; x < w; x++) {
                nodes.add(new Node(x, y));
            }
        }
        for (Node a : nodes) {
            for (Node b : nodes) {
                for (int c = 0; c < 2 * v; c++) {
                    if (b.x == a.x + 1 && b.y == a.y) {
                        join(a.output[1][c], b.input[2][c]);
                        join(b.output[2][c], a.input[1][c]);
                    }
                    if (b.x == a.x && b.y == a.y + 1) {
                        join(a.output[3][c], b.input[4][c]);
                        join(b.output[4][c], a.input[3][c]);
                    }
                }
            }
        }
    }

    private Gate newGate() {
        Gate gate = new Gate();
        gate.credits = d;
        return gate;
    }

    private static void join(Gate gate, Lane lane) {
        gate.goal = lane;
        lane.source = gate;
    }

    private void send(Gate gate, Flit flit) {
        gate.credits--;
        sent++;
        comingIn.add(() -> gate.goal.flits.addLast(flit));
    }

    private Flit takeFrom(Lane lane) {
        comingIn.add(() -> lane.source.credits++);
        return lane.flits.removeFirst();
    }

    private void tick() {
        ticks++;
        sent = 0;
        List<Runnable> now = comingIn;
        comingIn = new ArrayList<>();
        now.forEach(Runnable::run);
        nodes.forEach(this::taking);
        nodes.forEach(this::sending);
        nodes.forEach(this::moving);
        nodes.forEach(this::granting);
        nodes.forEach(this::routing);
    }

    private void taking(Node node) {
        for (Lane lane : node.arrival) {
            if (lane.flits.isEmpty()) {
                continue;
            }
            Flit first = lane.flits.getFirst();
            Packet packet = first.packet();
            boolean endOfRequest = first.last() && !packet.reply;
            if (endOfRequest && (node.held || node.replies.size() == 2)) {
                continue;
            }
            takeFrom(lane);
            if (endOfRequest) {
                node.replies.add(replyTo(packet, node));
            } else if (first.last()) {
                done.add(new Done(packet.number, packet.value, ticks));
            }
        }
    }

    private Packet replyTo(Packet request, Node node) {
        Packet reply = new Packet();
        reply.reply = true;
        reply.number = request.number;
        reply.from = request.to;
        reply.to = request.from;
        reply.channel = (request.from + request.to) % v + v;
        reply.flits = request.write ? 1 : 2;
        reply.value = node.words[request.word];
        if (request.write) {
            node.words[request.word] = request.value;
        }
        return reply;
    }

    private void sending(Node node) {
        for (List<Packet> waiting : List.of(node.replies, node.requests)) {
            if (waiting.isEmpty()) {
                continue;
            }
            Packet packet = waiting.get(0);
            Gate sender = node.sender[packet.channel];
            if (sender.credits > 0) {
                packet.flitsSent++;
                boolean last = packet.flitsSent == packet.flits;
                send(sender, new Flit(packet, last));
                if (last) {
                    waiting.remove(0);
                }
                return;
            }
        }
    }

    private void moving(Node node) {
        int[] names = new int[5];
        for (int p = 0; p < 5; p++) {
            names[p] = -1;
            for (int k = 2 * v - 1; k >= 0; k--) {
                int c = (node.turnOfInputPort[p] + k) % (2 * v);
                Lane lane = node.input[p][c];
                boolean hasFlit = !lane.flits.isEmpty();
                if (hasFlit && lane.stage == 2 && node.output[lane.way][c].credits > 0) {
                    names[p] = c;
                }
            }
        }
        int[] chosen = new int[5];
        for (int o = 0; o < 5; o++) {
            chosen[o] = -1;
            for (int k = 4; k >= 0; k--) {
                int p = (node.turnOfOutputPort[o] + k) % 5;
                if (names[p] >= 0 && node.input[p][names[p]].way == o) {
                    chosen[o] = p;
                }
            }
        }
        for (int o = 0; o < 5; o++) {
            if (chosen[o] >= 0) {
                int p = chosen[o];
                int c = names[p];
                Flit flit = takeFrom(node.input[p][c]);
                send(node.output[o][c], flit);
                node.turnOfOutputPort[o] = p == 4 ? 0 : p + 1;
                node.turnOfInputPort[p] = c == 2 * v - 1 ? 0 : c + 1;
                if (flit.last()) {
                    node.output[o][c].taken = false;
                    node.input[p][c].stage = 0;
                    node.input[p][c].way = 0;
                }
            }
        }
    }

    private void granting(Node node) {
        for (int o = 0; o < 5; o++) {
            for (int c = 0; c < 2 * v; c++) {
                Gate output = node.output[o][c];
                int start = output.turn;
                for (int k = 0; k < 5 && !output.taken; k++) {
                    int p = (start + k) % 5;
                    Lane lane = node.input[p][c];
                    if (lane.stage == 1 && lane.way == o) {
                        output.taken = true;
                        output.turn = p == 4 ? 0 : p + 1;
                        lane.stage = 2;
                    }
                }
            }
        }
    }

    private void routing(Node node) {
        for (Lane[] lanes : node.input) {
            for (Lane lane : lanes) {
                if (lane.stage == 0 && !lane.flits.isEmpty()) {
                    Node goal = nodes.get(lane.flits.getFirst().packet().to);
                    lane.way = goal.x > node.x ? 1
                            : goal.x < node.x ? 2
                            : goal.y > node.y ? 3
                            : goal.y < node.y ? 4 : 0;
                    lane.stage = 1;
                }
            }
        }
    }

    private boolean isNode(int node) {
        return node >= 0 && node < w * h;
    }

    private boolean isChannel(int channel) {
        return channel >= 0 && channel < 2 * v;
    }

    int nodes() {
        return w * h;
    }

    int request(int from, int to, boolean write, int word, int value) {
        if (!isNode(from) || !isNode(to) || word < 0 || word > 7) {
            return BAD;
        }
        if (nodes.get(from).requests.size() == 4 || made == 400) {
            return FULL;
        }
        Packet packet = new Packet();
        packet.number = made++;
        packet.write = write;
        packet.from = from;
        packet.to = to;
        packet.word = word;
        packet.value = value;
        packet.channel = (from + to) % v;
        packet.flits = write ? 3 : 2;
        nodes.get(from).requests.add(packet);
        return packet.number;
    }

    boolean hold(int node, boolean held) {
        if (isNode(node)) {
            nodes.get(node).held = held;
        }
        return isNode(node);
    }

    int run(int n) {
        if (n < 0 || n > 60) {
            return BAD;
        }
        int before = done.size();
        for (int i = 0; i < n; i++) {
            tick();
        }
        return done.size() - before;
    }

    int ticks() {
        return ticks;
    }

    int replies() {
        return done.size();
    }

    int reply(int i, int what) {
        if (i < 0 || i >= done.size() || what < 0 || what > 2) {
            return BAD;
        }
        Done reply = done.get(i);
        return what == 0 ? reply.number() : what == 1 ? reply.word() : reply.tick();
    }

    int memory(int node, int word) {
        return isNode(node) && word >= 0 && word <= 7 ? nodes.get(node).words[word] : 0;
    }

    int waiting(int node) {
        if (!isNode(node)) {
            return BAD;
        }
        return nodes.get(node).requests.size() + 8 * nodes.get(node).replies.size();
    }

    int lane(int node, int port, int channel) {
        if (!isNode(node) || port < 0 || port > 4 || !isChannel(channel)) {
            return BAD;
        }
        Lane lane = nodes.get(node).input[port][channel];
        return lane.flits.size() + 8 * lane.stage + 64 * lane.way;
    }

    int output(int node, int port, int channel) {
        if (!isNode(node) || port < 0 || port > 4 || !isChannel(channel)) {
            return BAD;
        }
        Gate output = nodes.get(node).output[port][channel];
        return output.credits + (output.taken ? 8 : 0);
    }

    int arrival(int node, int channel) {
        if (!isNode(node) || !isChannel(channel)) {
            return BAD;
        }
        return nodes.get(node).arrival[channel].flits.size()
                + 8 * nodes.get(node).sender[channel].credits;
    }

    int sent() {
        return sent;
    }

    /** No lane ever holds more than the depth, and no credit is lost or made. */
    boolean isSound() {
        for (Node node : nodes) {
            for (int c = 0; c < 2 * v; c++) {
                for (int p = 0; p < 5; p++) {
                    if (node.input[p][c].flits.size() > d || node.output[p][c].credits < 0) {
                        return false;
                    }
                }
                if (node.arrival[c].flits.size() > d || node.sender[c].credits < 0) {
                    return false;
                }
            }
        }
        return true;
    }
}
