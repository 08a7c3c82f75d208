/** A tick, part 4: which lanes are ready, which are named, and which flits move. */
public final class Tick4MovingTest {
    public static void main(String[] args) {
        notWithoutAFlit();
        notWithoutAFlitNorACredit();
        notBeforeStage2();
        notWithoutACredit();
        namedFromTheTurnOn();
        namedFromTheLastChannelOnTo0();
        namingTurn0After1();
        namingTurn0After3();
        namingTurnAt0AtFirst();
        namingTurnOfAPortThatIsNotChosen();
        oneFlitOfAPort();
        chosenFromTheTurnOn();
        chosenFrom4OnTo0();
        choosingTurn0After4();
        choosingTurnAt0AtFirst();
        choosingTurnStaysWithoutAMove();
        oneFlitToAnOutputPort();
        creditOfTheOutputThatLeadsToTheLane();
        theLastFlit();
        notTheLastFlit();
        Due.end();
    }

    /**
     * "READY when it has a flit": two flits of a write from node 1 to the west have gone, the
     * third waits for a reply. In tick 11 the lane has stage 2, and there is a credit, but no flit.
     */
    private static void notWithoutAFlit() {
        WormMesh mesh = new WormMesh(2, 1, 1, 1);
        mesh.request(0, 1, false, 0, 0);
        mesh.run(1);
        mesh.request(1, 0, true, 0, 0);
        mesh.run(7);
        new Watch(mesh)
                .lane(1, 0, 0, 144, 144, 144, 0)
                .output(1, 2, 0, 8, 8, 9, 0)
                .sent(2, 2, 1, 1)
                .run();
    }

    /** With D = 1 the lane of a read to itself is empty in stage 2 after ticks 4 and 5. */
    private static void notWithoutAFlitNorACredit() {
        WormMesh mesh = new WormMesh(1, 1, 1, 1);
        mesh.request(0, 0, false, 0, 0);
        new Watch(mesh)
                .lane(0, 0, 0, 0, 9, 17, 16, 16, 0, 0, 0)
                .output(0, 0, 0, 1, 1, 9, 8, 8, 0, 0, 1)
                .sent(1, 0, 0, 1, 1, 1, 1, 0)
                .run();
    }

    /** "its STAGE is 2": stage 1 is not enough in tick 3, nor stage 0 in tick 2. */
    private static void notBeforeStage2() {
        WormMesh mesh = new WormMesh(1, 1, 4, 1);
        mesh.request(0, 0, true, 0, 0);
        new Watch(mesh)
                .lane(0, 0, 0, 0, 1 + 8, 2 + 16, 2 + 16)
                .output(0, 0, 0, 4, 4, 4 + 8, 3 + 8)
                .run();
    }

    /** "the output that it has got has a credit": none while the arrival lane is full. */
    private static void notWithoutACredit() {
        for (int depth = 1; depth <= 4; depth++) {
            WormMesh mesh = new WormMesh(1, 1, depth, 1);
            mesh.hold(0, true);
            for (int i = 0; i < 4; i++) {
                mesh.request(0, 0, true, 0, 0);
            }
            mesh.run(59);
            Due.is("stage 2", 2, mesh.lane(0, 0, 0) / 8);
            Due.is("no credit", 8, mesh.output(0, 0, 0));
            int flits = mesh.lane(0, 0, 0) % 8;
            Due.is("there are flits", true, flits > 0);
            mesh.run(1);
            Due.is("none moves", flits, mesh.lane(0, 0, 0) % 8);
            Due.is("sent()", 0, mesh.sent());
            mesh.hold(0, false);
            mesh.run(1);
            Due.is("the credit is on its way", flits, mesh.lane(0, 0, 0) % 8);
            mesh.run(1);
            Due.is("one credit, one flit", flits - 1, mesh.lane(0, 0, 0) % 8);
            Due.is("no credit again", 0, mesh.output(0, 0, 0) % 8);
        }
    }

    /**
     * Two writes of a node to itself. In tick 10 the last flit of the second, in channel 0, and
     * the reply to the first, in channel V, are ready; channel 0 moved last, so channel V is named.
     */
    private static void namedFromTheTurnOn() {
        for (int kinds = 1; kinds <= 2; kinds++) {
            WormMesh mesh = new WormMesh(1, 1, 4, kinds);
            mesh.request(0, 0, true, 0, 0);
            mesh.request(0, 0, true, 0, 0);
            mesh.run(5);
            new Watch(mesh)
                    .lane(0, 0, 0, 10, 19, 18, 17, 17)
                    .lane(0, 0, kinds, 0, 0, 9, 17, 0)
                    .run();
        }
    }

    /** "from the last one on to channel 0": in tick 11 of the same run; and of a single packet. */
    private static void namedFromTheLastChannelOnTo0() {
        for (int kinds = 1; kinds <= 2; kinds++) {
            WormMesh mesh = new WormMesh(1, 1, 4, kinds);
            mesh.request(0, 0, true, 0, 0);
            mesh.request(0, 0, true, 0, 0);
            mesh.run(10);
            new Watch(mesh).lane(0, 0, 0, 0).run();
            mesh = new WormMesh(1, 1, 4, kinds);
            mesh.request(0, 0, true, 0, 0);
            mesh.run(3);
            new Watch(mesh).lane(0, 0, 0, 18, 17, 0).run();
        }
    }

    /**
     * "the next channel (0 after the last)": two reads with V = 1. In tick 9 channel 1, the last,
     * moves; in tick 10 both lanes are ready, and channel 0 is named.
     */
    private static void namingTurn0After1() {
        WormMesh mesh = new WormMesh(1, 1, 2, 1);
        mesh.request(0, 0, false, 0, 0);
        mesh.request(0, 0, false, 0, 0);
        mesh.run(5);
        new Watch(mesh)
                .lane(0, 0, 0, 9, 17, 16, 17, 0, 0)
                .lane(0, 0, 1, 0, 9, 18, 17, 17, 0)
                .run();
    }

    /**
     * With V = 2 the last channel is 3: it has a reply from node 1 to node 0, channel 1 a write.
     * In tick 12 channel 3 moves (channel 1 moved last), in tick 13 channel 1 is named.
     */
    private static void namingTurn0After3() {
        WormMesh mesh = new WormMesh(2, 1, 2, 2);
        mesh.request(0, 1, false, 0, 0);
        mesh.run(4);
        mesh.request(1, 0, true, 0, 0);
        mesh.run(6);
        new Watch(mesh)
                .lane(1, 0, 1, 144, 145, 0, 0)
                .lane(1, 0, 3, 146, 145, 145, 0)
                .run();
    }

    /**
     * "All stages and turns are 0 at first": no flit left NORTH of node 0 before tick 10, when
     * its lanes 0 (from node 2) and 1 (from node 3) become ready; lane 0 is named.
     */
    private static void namingTurnAt0AtFirst() {
        WormMesh mesh = new WormMesh(2, 2, 1, 2);
        mesh.request(0, 0, true, 0, 0);
        mesh.request(2, 0, true, 0, 0);
        mesh.request(3, 0, true, 0, 0);
        mesh.run(7);
        new Watch(mesh)
                .lane(0, 3, 0, 17, 17, 16, 16)
                .lane(0, 3, 1, 9, 17, 17, 16)
                .run();
    }

    /**
     * In tick 9 LOCAL of node 0 names channel 2 (channel 0 moved last), but EAST is chosen for the
     * output port LOCAL. The turn stays, so channel 2 is named and moves in tick 10.
     */
    private static void namingTurnOfAPortThatIsNotChosen() {
        WormMesh mesh = new WormMesh(2, 1, 3, 2);
        mesh.request(0, 0, false, 0, 0);
        mesh.request(1, 0, false, 0, 0);
        mesh.request(0, 0, true, 0, 0);
        mesh.run(7);
        new Watch(mesh)
                .lane(0, 1, 1, 17, 0, 0, 0)
                .lane(0, 0, 2, 18, 18, 17, 17)
                .lane(0, 0, 0, 17, 18, 18, 17)
                .run();
    }

    /**
     * "Each port NAMES one of its ready lanes": in tick 10 LOCAL of node 1 has a reply for itself
     * and a request to the WEST that are ready. Two output ports are free, but one flit moves. (In
     * tick 12 there is no credit to the WEST.)
     */
    private static void oneFlitOfAPort() {
        WormMesh mesh = new WormMesh(2, 1, 2, 1);
        mesh.request(1, 1, true, 0, 0);
        mesh.request(1, 0, true, 0, 0);
        mesh.run(6);
        new Watch(mesh)
                .lane(1, 0, 0, 137, 145, 145, 145, 145, 145, 0)
                .lane(1, 0, 1, 0, 9, 17, 0, 0, 0, 0)
                .output(1, 2, 0, 2, 10, 9, 9, 8, 8, 0)
                .run();
    }

    /**
     * A write from the south (channel 1) and one of node 1 itself (channel 0) are both ready for
     * the output port LOCAL of node 1 from tick 7 on: it takes LOCAL, SOUTH, LOCAL, SOUTH, ...
     */
    private static WormMesh localAndSouth() {
        WormMesh mesh = new WormMesh(1, 2, 4, 2);
        mesh.request(0, 1, true, 0, 0);
        mesh.run(3);
        mesh.request(1, 1, true, 0, 0);
        mesh.run(3);
        return mesh;
    }

    /** "the first one from the output port's TURN on, port by port": in tick 8 SOUTH, not LOCAL. */
    private static void chosenFromTheTurnOn() {
        new Watch(localAndSouth()).lane(1, 0, 0, 18, 18).lane(1, 4, 1, 19, 18).run();
    }

    /** "from 4 on to 0": the turn is 1 after LOCAL has moved, and LOCAL is all there is. */
    private static void chosenFrom4OnTo0() {
        WormMesh mesh = new WormMesh(1, 1, 4, 1);
        mesh.request(0, 0, true, 0, 0);
        mesh.run(3);
        new Watch(mesh).sent(1, 1, 1).output(0, 0, 0, 11, 10, 2).run();
    }

    /** "the output port's turn becomes the next port (0 after 4)": LOCAL in ticks 9 and 11. */
    private static void choosingTurn0After4() {
        new Watch(localAndSouth())
                .lane(1, 0, 0, 18, 18, 17, 17, 0, 0)
                .lane(1, 4, 1, 19, 18, 18, 17, 17, 0)
                .output(1, 0, 0, 11, 11, 11, 11, 3, 3)
                .output(1, 0, 1, 12, 11, 11, 11, 11, 3)
                .run();
    }

    /** "All stages and turns are 0 at first": in tick 7 LOCAL is chosen. */
    private static void choosingTurnAt0AtFirst() {
        new Watch(localAndSouth()).output(1, 0, 0, 11).output(1, 0, 1, 12).run();
    }

    /**
     * The turn of LOCAL of node 1 is 0 after a flit from the SOUTH, and stays there while ticks go
     * by without a move: once more LOCAL goes first.
     */
    private static void choosingTurnStaysWithoutAMove() {
        for (int idle = 0; idle < 5; idle++) {
            WormMesh mesh = new WormMesh(1, 2, 4, 2);
            mesh.request(0, 1, true, 0, 0);
            mesh.run(30 + idle);
            mesh.request(0, 1, true, 0, 0);
            mesh.run(3);
            mesh.request(1, 1, true, 0, 0);
            mesh.run(3);
            new Watch(mesh).lane(1, 0, 0, 18, 18).lane(1, 4, 1, 19, 18).run();
        }
    }

    /** "for each output port one of the ports is chosen": not one for each of its outputs. */
    private static void oneFlitToAnOutputPort() {
        WormMesh mesh = localAndSouth();
        for (int tick = 7; tick <= 12; tick++) {
            mesh.run(1);
            int flits = mesh.lane(1, 0, 0) % 8 + mesh.lane(1, 4, 1) % 8;
            // Six flits in all, the last of which come in with tick 7.
            Due.is("flits left after tick " + tick, 12 - tick, flits);
        }
    }

    /** "a credit is given back to what leads to the lane": a write to the north, and its reply. */
    private static void creditOfTheOutputThatLeadsToTheLane() {
        WormMesh mesh = new WormMesh(1, 2, 4, 1);
        mesh.request(0, 1, true, 0, 0);
        new Watch(mesh)
                .output(0, 3, 0, 4, 4, 12, 11, 10, 1, 1, 2, 3, 4, 4, 4, 4, 4, 4, 4, 4)
                .arrival(0, 0, 24, 16, 8, 8, 16, 24, 32, 32, 32, 32, 32, 32, 32, 32, 32, 32, 32)
                .output(1, 4, 1, 4, 4, 4, 4, 4, 4, 4, 4, 4, 4, 4, 12, 3, 3, 3, 3, 4)
                .run();
    }

    /** "When the flit is the last one of its packet, the output is taken no more ... stage 0". */
    private static void theLastFlit() {
        WormMesh mesh = new WormMesh(1, 1, 4, 1);
        mesh.request(0, 0, false, 0, 0);
        mesh.run(4);
        new Watch(mesh).lane(0, 0, 0, 0).output(0, 0, 0, 2).run();
    }

    /** Any other flit leaves the output taken and the lane in stage 2. */
    private static void notTheLastFlit() {
        WormMesh mesh = new WormMesh(1, 1, 4, 1);
        mesh.request(0, 0, true, 0, 0);
        mesh.run(3);
        new Watch(mesh).lane(0, 0, 0, 18, 17).output(0, 0, 0, 11, 10).run();
    }
}
