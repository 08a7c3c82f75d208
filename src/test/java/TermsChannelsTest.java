/** Terms, CHANNELS: their number, the room of a lane, its order, and the credits at first. */
public final class TermsChannelsTest {
    public static void main(String[] args) {
        channelsFrom0();
        aLaneHoldsAtMostD();
        aFullLaneTakesAgain();
        firstInFirstOut();
        creditsAtFirst();
        notTakenAtFirst();
        Due.end();
    }

    /** "CHANNELS are 0 .. 2 * V - 1." */
    private static void channelsFrom0() {
        for (int kinds = 1; kinds <= 2; kinds++) {
            WormMesh mesh = new WormMesh(1, 1, 1, kinds);
            for (int channel = -2; channel < 6; channel++) {
                boolean is = channel >= 0 && channel < 2 * kinds;
                String call = "V = " + kinds + ", channel " + channel;
                Due.is("lane, " + call, is ? 0 : WormMesh.BAD, mesh.lane(0, 0, channel));
                Due.is("output, " + call, is ? 1 : WormMesh.BAD, mesh.output(0, 0, channel));
                Due.is("arrival, " + call, is ? 8 : WormMesh.BAD, mesh.arrival(0, channel));
            }
        }
    }

    /** A held node takes two flits of the first write; the others fill three lanes of 4, too. */
    private static WormMesh heldWithFullLanes(int depth) {
        WormMesh mesh = new WormMesh(2, 1, depth, 1);
        mesh.hold(1, true);
        for (int i = 0; i < 4; i++) {
            mesh.request(0, 1, true, 0, 10 + i);
        }
        mesh.run(3);
        // By now there is room for a fifth, if all flits of the first could be sent.
        mesh.request(0, 1, true, 0, 14);
        return mesh;
    }

    /** "A lane holds at most D flits": no lane ever holds more, and held up, each holds D. */
    private static void aLaneHoldsAtMostD() {
        for (int depth = 1; depth <= 4; depth++) {
            WormMesh mesh = heldWithFullLanes(depth);
            for (int tick = 0; tick < 60; tick++) {
                mesh.run(1);
                boolean held = mesh.arrival(1, 0) % 8 <= depth
                        && mesh.lane(1, 2, 0) % 8 <= depth
                        && mesh.lane(0, 0, 0) % 8 <= depth;
                Due.is("at most " + depth + " flits in tick " + mesh.ticks(), true, held);
            }
            Due.is("arrival lane, D = " + depth, depth, mesh.arrival(1, 0) % 8);
            Due.is("lane of WEST, D = " + depth, depth, mesh.lane(1, 2, 0) % 8);
            Due.is("lane of LOCAL, D = " + depth, depth, mesh.lane(0, 0, 0) % 8);
            Due.is("credits to the arrival lane, D = " + depth, 0, mesh.output(1, 0, 0) % 8);
            Due.is("credits to WEST, D = " + depth, 0, mesh.output(0, 1, 0) % 8);
            Due.is("credits to LOCAL, D = " + depth, 0, mesh.arrival(0, 0) / 8);
        }
    }

    /** What was full is empty again, and no credit is lost, when the node is held no more. */
    private static void aFullLaneTakesAgain() {
        for (int depth = 1; depth <= 4; depth++) {
            WormMesh mesh = heldWithFullLanes(depth);
            mesh.run(60);
            mesh.hold(1, false);
            mesh.run(60);
            mesh.run(60);
            Due.is("arrival(1, 0), D = " + depth, 8 * depth, mesh.arrival(1, 0));
            Due.is("lane(1, 2, 0), D = " + depth, 0, mesh.lane(1, 2, 0));
            Due.is("output(1, 0, 0), D = " + depth, depth, mesh.output(1, 0, 0));
            Due.is("output(0, 1, 0), D = " + depth, depth, mesh.output(0, 1, 0));
            Due.is("waiting(0), D = " + depth, 0, mesh.waiting(0));
        }
    }

    /** "first in, first out": each write finds the word that the write before it left. */
    private static void firstInFirstOut() {
        for (int depth = 1; depth <= 4; depth++) {
            WormMesh mesh = new WormMesh(2, 1, depth, 1);
            int made = 0;
            for (int i = 0; i < 200 && made < 10; i++) {
                if (mesh.request(0, 1, true, 0, 100 + made) == made) {
                    made++;
                }
                mesh.run(1);
            }
            mesh.run(60);
            mesh.run(60);
            for (int i = 0; i < 10; i++) {
                Due.is("number " + i + ", D = " + depth, i, mesh.reply(i, 0));
                Due.is("word " + i + ", D = " + depth, i == 0 ? 0 : 99 + i, mesh.reply(i, 1));
            }
        }
    }

    /** "An output or sender has CREDITS, at first D". */
    private static void creditsAtFirst() {
        for (int depth = 1; depth <= 4; depth++) {
            WormMesh mesh = new WormMesh(3, 2, depth, 2);
            for (int node = 0; node < 6; node++) {
                for (int channel = 0; channel < 4; channel++) {
                    for (int port = 0; port < 5; port++) {
                        Due.is("credits of an output", depth, mesh.output(node, port, channel) % 8);
                    }
                    Due.is("credits of a sender", depth, mesh.arrival(node, channel) / 8);
                }
            }
        }
    }

    /** "an output may be TAKEN, at first it is not". */
    private static void notTakenAtFirst() {
        WormMesh mesh = new WormMesh(3, 3, 4, 2);
        for (int node = 0; node < 9; node++) {
            for (int port = 0; port < 5; port++) {
                for (int channel = 0; channel < 4; channel++) {
                    Due.is("taken", 0, mesh.output(node, port, channel) / 8);
                }
            }
        }
    }
}
