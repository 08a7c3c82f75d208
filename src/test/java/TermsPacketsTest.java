/** Terms, PACKETS: their flits, their channels, and the words of their replies. */
public final class TermsPacketsTest {
    public static void main(String[] args) {
        flitsOfARead();
        flitsOfAWrite();
        channelOfARequest();
        channelOfAReply();
        channelsThatWrapAround();
        aNodeAsksItself();
        wordOfAWrite();
        wordOfARead();
        Due.end();
    }

    /** "A request to read has 2 flits ... a reply to a read has 2": both wait for two ticks. */
    private static void flitsOfARead() {
        WormMesh mesh = new WormMesh(1, 1, 4, 1);
        mesh.request(0, 0, false, 0, 0);
        new Watch(mesh)
                .waiting(0, 1, 0, 0, 0, 0, 8, 0, 0, 0, 0, 0, 0)
                .arrival(0, 0, 24, 16, 16, 16, 24, 32, 32, 32, 32, 32, 32, 32)
                .arrival(0, 1, 32, 32, 32, 32, 32, 24, 16, 16, 16, 24, 32, 32)
                .sent(1, 1, 0, 1, 1, 1, 1, 0, 1, 1, 0, 0)
                .run();
    }

    /** "one to write 3 ... to a write 1": the request waits for three ticks, the reply for none. */
    private static void flitsOfAWrite() {
        WormMesh mesh = new WormMesh(1, 1, 4, 1);
        mesh.request(0, 0, true, 0, 1);
        new Watch(mesh)
                .waiting(0, 1, 1, 0, 0, 0, 0, 0, 0, 0, 0, 0, 0)
                .arrival(0, 0, 24, 16, 8, 8, 16, 24, 32, 32, 32, 32, 32, 32)
                .arrival(0, 1, 32, 32, 32, 32, 32, 32, 24, 24, 24, 24, 32, 32)
                .sent(1, 1, 1, 1, 1, 1, 1, 0, 0, 1, 0, 0)
                .run();
    }

    /** The channel in which a flit comes into the lane of LOCAL with a tick. */
    private static int channelAt(WormMesh mesh, int node) {
        int found = -1;
        for (int channel = 0; mesh.lane(node, 0, channel) != WormMesh.BAD; channel++) {
            if (mesh.lane(node, 0, channel) != 0) {
                Due.is("flits are in one channel only", -1, found);
                found = channel;
            }
        }
        return found;
    }

    /** "The channel of a packet is (the sum of the two nodes) modulo V". */
    private static void channelOfARequest() {
        for (int kinds = 1; kinds <= 2; kinds++) {
            for (int from = 0; from < 9; from++) {
                for (int to = 0; to < 9; to++) {
                    WormMesh mesh = new WormMesh(3, 3, 4, kinds);
                    mesh.request(from, to, false, 0, 0);
                    mesh.run(2);
                    String pair = from + " to " + to + ", V = " + kinds;
                    Due.is("request " + pair, (from + to) % kinds, channelAt(mesh, from));
                }
            }
        }
    }

    /** "plus V for a reply": a read is served in tick 6, three ticks later for each link. */
    private static void channelOfAReply() {
        for (int kinds = 1; kinds <= 2; kinds++) {
            for (int from = 0; from < 9; from++) {
                for (int to = 0; to < 9; to++) {
                    WormMesh mesh = new WormMesh(3, 3, 4, kinds);
                    int links = Math.abs(from % 3 - to % 3) + Math.abs(from / 3 - to / 3);
                    mesh.request(from, to, false, 0, 0);
                    mesh.run(7 + 3 * links);
                    String pair = from + " to " + to + ", V = " + kinds;
                    Due.is("reply " + pair, (from + to) % kinds + kinds, channelAt(mesh, to));
                }
            }
        }
    }

    /** The sum 1 has the last channel of the requests, the sums 2 and 16 have the first again. */
    private static void channelsThatWrapAround() {
        int[][] pairs = {{0, 0, 0}, {0, 1, 1}, {1, 1, 0}, {8, 8, 0}, {8, 7, 1}};
        for (int[] pair : pairs) {
            WormMesh mesh = new WormMesh(3, 3, 1, 2);
            mesh.request(pair[0], pair[1], true, 0, 0);
            mesh.run(1);
            for (int channel = 0; channel < 4; channel++) {
                int want = channel == pair[2] ? 0 : 8;
                String call = "sender of channel " + channel + ", " + pair[0] + " to " + pair[1];
                Due.is(call, want, mesh.arrival(pair[0], channel));
            }
        }
    }

    /** "A node may ask itself, too." */
    private static void aNodeAsksItself() {
        for (int node = 0; node < 9; node++) {
            WormMesh mesh = new WormMesh(3, 3, 4, 2);
            Due.is("request", 0, mesh.request(node, node, true, 3, 30 + node));
            Due.is("run(11)", 1, mesh.run(11));
            Due.is("memory(" + node + ", 3)", 30 + node, mesh.memory(node, 3));
            Due.is("no other node", 0, mesh.memory((node + 1) % 9, 3));
        }
    }

    /** "for a write, with the word as it was before". */
    private static void wordOfAWrite() {
        WormMesh mesh = new WormMesh(2, 1, 4, 1);
        for (int i = 0; i < 4; i++) {
            mesh.request(0, 1, true, 2, 5 + i);
        }
        mesh.run(60);
        int[] word = {0, 5, 6, 7};
        for (int i = 0; i < 4; i++) {
            Due.is("reply(" + i + ", 1)", word[i], mesh.reply(i, 1));
        }
        Due.is("memory(1, 2)", 8, mesh.memory(1, 2));
    }

    /** "with the word that was read": as it was then, whatever is written later. */
    private static void wordOfARead() {
        WormMesh mesh = new WormMesh(2, 1, 4, 1);
        mesh.request(0, 1, true, 2, 5);
        mesh.request(0, 1, false, 2, 99);
        mesh.request(0, 1, true, 2, 6);
        mesh.request(0, 1, false, 3, 99);
        mesh.run(60);
        Due.is("reply(1, 1)", 5, mesh.reply(1, 1));
        Due.is("reply(3, 1), of another word", 0, mesh.reply(3, 1));
        Due.is("a read writes nothing", 6, mesh.memory(1, 2));
        Due.is("a read writes nothing", 0, mesh.memory(1, 3));
    }
}
