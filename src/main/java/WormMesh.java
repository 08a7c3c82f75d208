/**
 * A mesh of nodes whose words are read and written from far away: requests and replies go as
 * packets, cut into flits, through routers with lanes, credits and channels, tick by tick.
 */
public final class WormMesh {
    /** An argument is out of its bounds. */
    public static final int BAD = -1;
    /** There is no room. */
    public static final int FULL = -2;

    private static final int LOCAL = 0;
    private static final int EAST = 1;
    private static final int WEST = 2;
    private static final int NORTH = 3;
    private static final int SOUTH = 4;
    private static final int PORTS = 5;

    // The interface counts as one more side of its node, linked to LOCAL: its arrival lanes and
    // senders are then lanes and outputs like those of a router.
    private static final int INTERFACE = 5;
    private static final int SIDES = 6;

    private static final int IDLE = 0;
    private static final int ASKING = 1;
    private static final int OPEN = 2;

    private static final int NONE = -1;
    private static final int WORDS = 8;
    private static final int MOST_REQUESTS = 400;
    private static final int REQUESTS_WAITING = 4;
    private static final int REPLIES_WAITING = 2;
    private static final int MOST_TICKS = 60;

    private final Grid grid;
    private final Links links;
    private final Packets packets;
    private final Interfaces interfaces;
    private final Routers routers;
    private int tickCount;

    public WormMesh(int width, int height, int depth, int channels) {
        grid = new Grid(width, height, depth, channels);
        links = new Links(grid);
        packets = new Packets(grid);
        interfaces = new Interfaces(grid, links, packets);
        routers = new Routers(grid, links, packets);
    }

    public int nodes() {
        return grid.nodeCount;
    }

    public int request(int from, int to, boolean write, int word, int value) {
        if (!grid.hasNode(from) || !grid.hasNode(to) || !isWord(word)) {
            return BAD;
        }
        if (interfaces.requests.isFull(from) || packets.isFull()) {
            return FULL;
        }
        int number = packets.add(from, to, write, word, value);
        interfaces.requests.add(from, number);
        return number;
    }

    public boolean hold(int node, boolean held) {
        if (!grid.hasNode(node)) {
            return false;
        }
        interfaces.held[node] = held;
        return true;
    }

    public int run(int n) {
        if (n < 0 || n > MOST_TICKS) {
            return BAD;
        }
        int before = interfaces.complete.count;
        for (int i = 0; i < n; i++) {
            tick();
        }
        return interfaces.complete.count - before;
    }

    public int ticks() {
        return tickCount;
    }

    public int replies() {
        return interfaces.complete.count;
    }

    public int reply(int i, int what) {
        Complete complete = interfaces.complete;
        if (i < 0 || i >= complete.count) {
            return BAD;
        }
        switch (what) {
            case 0:
                return complete.number[i];
            case 1:
                return packets.value[complete.number[i]];
            case 2:
                return complete.tick[i];
            default:
                return BAD;
        }
    }

    public int memory(int node, int word) {
        if (!grid.hasNode(node) || !isWord(word)) {
            return 0;
        }
        return interfaces.words[node * WORDS + word];
    }

    public int waiting(int node) {
        if (!grid.hasNode(node)) {
            return BAD;
        }
        return interfaces.requests.count[node] + 8 * interfaces.replies.count[node];
    }

    public int lane(int node, int port, int channel) {
        if (!isRouterPlace(node, port, channel)) {
            return BAD;
        }
        int slot = grid.slot(node, port, channel);
        int stage = routers.stage[slot];
        int way = stage == IDLE ? 0 : routers.way[slot];
        return links.count[slot] + 8 * stage + 64 * way;
    }

    public int output(int node, int port, int channel) {
        if (!isRouterPlace(node, port, channel)) {
            return BAD;
        }
        int slot = grid.slot(node, port, channel);
        return links.credits[slot] + (routers.taken[slot] ? 8 : 0);
    }

    public int arrival(int node, int channel) {
        if (!grid.hasNode(node) || !grid.hasChannel(channel)) {
            return BAD;
        }
        int slot = grid.slot(node, INTERFACE, channel);
        return links.count[slot] + 8 * links.credits[slot];
    }

    public int sent() {
        return links.sentCount;
    }

    private static boolean isWord(int word) {
        return word >= 0 && word < WORDS;
    }

    private boolean isRouterPlace(int node, int port, int channel) {
        return grid.hasNode(node) && port >= 0 && port < PORTS && grid.hasChannel(channel);
    }

    private void tick() {
        tickCount++;
        links.arriveAll();
        interfaces.takeAll(tickCount);
        interfaces.sendAll();
        routers.moveAll();
        routers.grantAll();
        routers.routeAll();
    }

    /** The measures of the mesh, and where its parts stand in the rows of the other classes. */
    private static final class Grid {
        final int width;
        final int height;
        final int depth;
        final int kinds;
        final int channelCount;
        final int nodeCount;
        final int slotCount;

        Grid(int width, int height, int depth, int channels) {
            this.width = within(width, 3);
            this.height = within(height, 3);
            this.depth = within(depth, 4);
            kinds = within(channels, 2);
            channelCount = 2 * kinds;
            nodeCount = this.width * this.height;
            slotCount = nodeCount * SIDES * channelCount;
        }

        private static int within(int value, int most) {
            return Math.max(1, Math.min(most, value));
        }

        boolean hasNode(int node) {
            return node >= 0 && node < nodeCount;
        }

        boolean hasChannel(int channel) {
            return channel >= 0 && channel < channelCount;
        }

        /** The place of the lane that comes in at a side, and of the output that goes out there. */
        int slot(int node, int side, int channel) {
            return (node * SIDES + side) * channelCount + channel;
        }

        int column(int node) {
            return node % width;
        }

        int row(int node) {
            return node / width;
        }

        /** The slot at the other end of the link. */
        int farSlot(int node, int side, int channel) {
            int neighbour = neighbour(node, side);
            // A port without a neighbour is never used; it leads to itself, to have an end at all.
            return neighbour == NONE
                    ? slot(node, side, channel)
                    : slot(neighbour, opposite(side), channel);
        }

        private int neighbour(int node, int side) {
            switch (side) {
                case EAST:
                    return column(node) + 1 < width ? node + 1 : NONE;
                case WEST:
                    return column(node) > 0 ? node - 1 : NONE;
                case NORTH:
                    return row(node) + 1 < height ? node + width : NONE;
                case SOUTH:
                    return row(node) > 0 ? node - width : NONE;
                default:
                    return node;
            }
        }

        private static int opposite(int side) {
            switch (side) {
                case EAST:
                    return WEST;
                case WEST:
                    return EAST;
                case NORTH:
                    return SOUTH;
                case SOUTH:
                    return NORTH;
                case LOCAL:
                    return INTERFACE;
                default:
                    return LOCAL;
            }
        }
    }

    /** All lanes with their flits, all credits, and what is on its way between two ticks. */
    private static final class Links {
        final int depth;
        final int[] far;
        final int[] flits;
        final int[] first;
        final int[] count;
        final int[] credits;
        // What was sent or given back in a tick is kept apart until the next tick begins.
        final int[] coming;
        final int[] returning;
        int sentCount;

        Links(Grid grid) {
            depth = grid.depth;
            far = new int[grid.slotCount];
            flits = new int[grid.slotCount * depth];
            first = new int[grid.slotCount];
            count = new int[grid.slotCount];
            credits = new int[grid.slotCount];
            coming = new int[grid.slotCount];
            returning = new int[grid.slotCount];
            for (int node = 0; node < grid.nodeCount; node++) {
                for (int side = 0; side < SIDES; side++) {
                    for (int channel = 0; channel < grid.channelCount; channel++) {
                        int slot = grid.slot(node, side, channel);
                        far[slot] = grid.farSlot(node, side, channel);
                        credits[slot] = depth;
                        coming[slot] = NONE;
                    }
                }
            }
        }

        void arriveAll() {
            sentCount = 0;
            for (int slot = 0; slot < count.length; slot++) {
                if (coming[slot] != NONE) {
                    flits[slot * depth + (first[slot] + count[slot]) % depth] = coming[slot];
                    count[slot]++;
                    coming[slot] = NONE;
                }
                credits[slot] += returning[slot];
                returning[slot] = 0;
            }
        }

        int firstFlit(int slot) {
            return flits[slot * depth + first[slot]];
        }

        int takeOut(int slot) {
            int flit = firstFlit(slot);
            first[slot] = (first[slot] + 1) % depth;
            count[slot]--;
            returning[far[slot]]++;
            return flit;
        }

        void send(int slot, int flit) {
            credits[slot]--;
            coming[far[slot]] = flit;
            sentCount++;
        }
    }

    /** All requests and their replies; a flit tells its packet, and if it is the last one. */
    private static final class Packets {
        final Grid grid;
        final int[] from = new int[MOST_REQUESTS];
        final int[] to = new int[MOST_REQUESTS];
        final boolean[] write = new boolean[MOST_REQUESTS];
        final int[] word = new int[MOST_REQUESTS];
        // The value to write until the request is served, from then on the word of the reply.
        final int[] value = new int[MOST_REQUESTS];
        int made;

        Packets(Grid grid) {
            this.grid = grid;
        }

        boolean isFull() {
            return made >= MOST_REQUESTS;
        }

        int add(int asker, int asked, boolean writes, int itsWord, int itsValue) {
            int number = made;
            from[number] = asker;
            to[number] = asked;
            write[number] = writes;
            word[number] = itsWord;
            value[number] = itsValue;
            made++;
            return number;
        }

        static int flit(int number, boolean ofReply, boolean last) {
            return 4 * number + (ofReply ? 2 : 0) + (last ? 1 : 0);
        }

        static int number(int flit) {
            return flit / 4;
        }

        static boolean isOfReply(int flit) {
            return (flit & 2) != 0;
        }

        static boolean isLast(int flit) {
            return (flit & 1) != 0;
        }

        int goal(int flit) {
            return isOfReply(flit) ? from[number(flit)] : to[number(flit)];
        }

        int channel(int number, boolean ofReply) {
            int kind = (from[number] + to[number]) % grid.kinds;
            return ofReply ? kind + grid.kinds : kind;
        }

        int length(int number, boolean ofReply) {
            if (!write[number]) {
                return 2;
            }
            return ofReply ? 1 : 3;
        }
    }

    /** The packets of one kind that wait at each node, the first of them perhaps sent in part. */
    private static final class Queues {
        final boolean ofReplies;
        final int room;
        final int[] numbers;
        final int[] count;
        final int[] flitsGone;

        Queues(int nodeCount, int room, boolean ofReplies) {
            this.ofReplies = ofReplies;
            this.room = room;
            numbers = new int[nodeCount * room];
            count = new int[nodeCount];
            flitsGone = new int[nodeCount];
        }

        boolean isFull(int node) {
            return count[node] >= room;
        }

        int firstNumber(int node) {
            return numbers[node * room];
        }

        void add(int node, int number) {
            numbers[node * room + count[node]] = number;
            count[node]++;
        }

        void removeFirst(int node) {
            int start = node * room;
            for (int i = 1; i < count[node]; i++) {
                numbers[start + i - 1] = numbers[start + i];
            }
            count[node]--;
            flitsGone[node] = 0;
        }
    }

    /** The complete replies, in their order. */
    private static final class Complete {
        final int[] number = new int[MOST_REQUESTS];
        final int[] tick = new int[MOST_REQUESTS];
        int count;

        void add(int itsNumber, int itsTick) {
            number[count] = itsNumber;
            tick[count] = itsTick;
            count++;
        }
    }

    /** The interfaces with the words of their nodes: the parts TAKING and SENDING of a tick. */
    private static final class Interfaces {
        final Grid grid;
        final Links links;
        final Packets packets;
        final Queues requests;
        final Queues replies;
        final Complete complete = new Complete();
        final int[] words;
        final boolean[] held;

        Interfaces(Grid grid, Links links, Packets packets) {
            this.grid = grid;
            this.links = links;
            this.packets = packets;
            requests = new Queues(grid.nodeCount, REQUESTS_WAITING, false);
            replies = new Queues(grid.nodeCount, REPLIES_WAITING, true);
            words = new int[grid.nodeCount * WORDS];
            held = new boolean[grid.nodeCount];
        }

        void takeAll(int tick) {
            for (int node = 0; node < grid.nodeCount; node++) {
                for (int channel = 0; channel < grid.channelCount; channel++) {
                    int slot = grid.slot(node, INTERFACE, channel);
                    if (links.count[slot] > 0 && mayTake(node, links.firstFlit(slot))) {
                        accept(node, links.takeOut(slot), tick);
                    }
                }
            }
        }

        private boolean mayTake(int node, int flit) {
            if (Packets.isOfReply(flit) || !Packets.isLast(flit)) {
                return true;
            }
            return !held[node] && !replies.isFull(node);
        }

        private void accept(int node, int flit, int tick) {
            if (!Packets.isLast(flit)) {
                return;
            }
            int number = Packets.number(flit);
            if (Packets.isOfReply(flit)) {
                complete.add(number, tick);
            } else {
                serve(node, number);
                replies.add(node, number);
            }
        }

        private void serve(int node, int number) {
            int place = node * WORDS + packets.word[number];
            int before = words[place];
            if (packets.write[number]) {
                words[place] = packets.value[number];
            }
            packets.value[number] = before;
        }

        void sendAll() {
            for (int node = 0; node < grid.nodeCount; node++) {
                if (!sendFirst(node, replies)) {
                    sendFirst(node, requests);
                }
            }
        }

        private boolean sendFirst(int node, Queues queues) {
            if (queues.count[node] == 0) {
                return false;
            }
            int number = queues.firstNumber(node);
            int channel = packets.channel(number, queues.ofReplies);
            int slot = grid.slot(node, INTERFACE, channel);
            if (links.credits[slot] == 0) {
                return false;
            }
            queues.flitsGone[node]++;
            boolean last = queues.flitsGone[node] == packets.length(number, queues.ofReplies);
            links.send(slot, Packets.flit(number, queues.ofReplies, last));
            if (last) {
                queues.removeFirst(node);
            }
            return true;
        }
    }

    /** The routers: the parts MOVING, GRANTING and ROUTING of a tick. */
    private static final class Routers {
        final Grid grid;
        final Links links;
        final Packets packets;
        final int[] stage;
        final int[] way;
        final boolean[] taken;
        final int[] outputTurn;
        // The turns of a port: as an input among its channels, as an output among the ports.
        final int[] namingTurn;
        final int[] choosingTurn;
        // For each port of the router at work: the channel of the lane that it names.
        final int[] named = new int[PORTS];

        Routers(Grid grid, Links links, Packets packets) {
            this.grid = grid;
            this.links = links;
            this.packets = packets;
            stage = new int[grid.slotCount];
            way = new int[grid.slotCount];
            taken = new boolean[grid.slotCount];
            outputTurn = new int[grid.slotCount];
            namingTurn = new int[grid.nodeCount * PORTS];
            choosingTurn = new int[grid.nodeCount * PORTS];
        }

        void moveAll() {
            for (int node = 0; node < grid.nodeCount; node++) {
                // All ports name before the first flit moves: a move must not change what is named.
                for (int port = 0; port < PORTS; port++) {
                    named[port] = readyChannel(node, port);
                }
                for (int outPort = 0; outPort < PORTS; outPort++) {
                    int port = chosenPort(node, outPort);
                    if (port != NONE) {
                        move(node, port, outPort);
                    }
                }
            }
        }

        private int readyChannel(int node, int port) {
            int turn = namingTurn[node * PORTS + port];
            for (int i = 0; i < grid.channelCount; i++) {
                int channel = (turn + i) % grid.channelCount;
                if (isReady(node, port, channel)) {
                    return channel;
                }
            }
            return NONE;
        }

        private boolean isReady(int node, int port, int channel) {
            int slot = grid.slot(node, port, channel);
            return links.count[slot] > 0
                    && stage[slot] == OPEN
                    && links.credits[grid.slot(node, way[slot], channel)] > 0;
        }

        private int chosenPort(int node, int outPort) {
            int turn = choosingTurn[node * PORTS + outPort];
            for (int i = 0; i < PORTS; i++) {
                int port = (turn + i) % PORTS;
                if (named[port] != NONE && way[grid.slot(node, port, named[port])] == outPort) {
                    return port;
                }
            }
            return NONE;
        }

        private void move(int node, int port, int outPort) {
            int channel = named[port];
            int slot = grid.slot(node, port, channel);
            int output = grid.slot(node, outPort, channel);
            int flit = links.takeOut(slot);
            links.send(output, flit);
            choosingTurn[node * PORTS + outPort] = (port + 1) % PORTS;
            namingTurn[node * PORTS + port] = (channel + 1) % grid.channelCount;
            if (Packets.isLast(flit)) {
                taken[output] = false;
                stage[slot] = IDLE;
            }
        }

        void grantAll() {
            for (int node = 0; node < grid.nodeCount; node++) {
                for (int port = 0; port < PORTS; port++) {
                    for (int channel = 0; channel < grid.channelCount; channel++) {
                        // Only an output that a lane asks for can be granted.
                        int slot = grid.slot(node, port, channel);
                        if (stage[slot] == ASKING) {
                            grantIfFree(node, way[slot], channel);
                        }
                    }
                }
            }
        }

        private void grantIfFree(int node, int outPort, int channel) {
            int output = grid.slot(node, outPort, channel);
            if (taken[output]) {
                return;
            }
            int turn = outputTurn[output];
            for (int i = 0; i < PORTS; i++) {
                int port = (turn + i) % PORTS;
                int slot = grid.slot(node, port, channel);
                if (stage[slot] == ASKING && way[slot] == outPort) {
                    taken[output] = true;
                    stage[slot] = OPEN;
                    outputTurn[output] = (port + 1) % PORTS;
                    return;
                }
            }
        }

        void routeAll() {
            for (int node = 0; node < grid.nodeCount; node++) {
                for (int port = 0; port < PORTS; port++) {
                    for (int channel = 0; channel < grid.channelCount; channel++) {
                        int slot = grid.slot(node, port, channel);
                        if (stage[slot] == IDLE && links.count[slot] > 0) {
                            way[slot] = wayTo(node, packets.goal(links.firstFlit(slot)));
                            stage[slot] = ASKING;
                        }
                    }
                }
            }
        }

        private int wayTo(int node, int goal) {
            int columns = grid.column(goal) - grid.column(node);
            if (columns != 0) {
                return columns > 0 ? EAST : WEST;
            }
            int rows = grid.row(goal) - grid.row(node);
            if (rows != 0) {
                return rows > 0 ? NORTH : SOUTH;
            }
            return LOCAL;
        }
    }
}
