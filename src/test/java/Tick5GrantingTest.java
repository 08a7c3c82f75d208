/** A tick, part 5: which lane gets an output. */
public final class Tick5GrantingTest {
    public static void main(String[] args) {
        onlyInStage1();
        notWhileTaken();
        inTheTickInWhichItIsFreed();
        oneOutputOfEachChannel();
        twoWaysInOneTick();
        onlyTheLanesOnThisWay();
        turnAt0AtFirst();
        fromTheTurnOn();
        from4OnTo0();
        turn0After4();
        turnAfterThePortThatGotIt();
        theOutputsOwnTurn();
        Due.end();
    }

    /** "has stage 1": it is stage 1 with tick 2 and gets its output with tick 3. */
    private static void onlyInStage1() {
        WormMesh mesh = new WormMesh(1, 1, 4, 1);
        mesh.request(0, 0, false, 0, 0);
        new Watch(mesh).lane(0, 0, 0, 0, 9, 18).output(0, 0, 0, 4, 4, 12).run();
    }

    /**
     * Node 0 reads twice from node 1, which is to the north of it. The first read has left the
     * lane of SOUTH with tick 8, the second is asking for LOCAL in tick 9. A read of node 1 itself
     * is asking for it in tick 9, too.
     */
    private static WormMesh southThenBoth() {
        WormMesh mesh = new WormMesh(1, 2, 4, 1);
        mesh.request(0, 1, false, 0, 0);
        mesh.request(0, 1, false, 0, 0);
        mesh.run(6);
        mesh.request(1, 1, false, 0, 0);
        mesh.run(2);
        Due.is("SOUTH is in stage 1", 1 + 8, mesh.lane(1, 4, 0));
        Due.is("LOCAL is in stage 1", 1 + 8, mesh.lane(1, 0, 0));
        return mesh;
    }

    /** "each output that is not taken": SOUTH waits in ticks 9 and 10. */
    private static void notWhileTaken() {
        new Watch(southThenBoth())
                .output(1, 0, 0, 11, 11)
                .lane(1, 0, 0, 2 + 16, 1 + 16)
                .lane(1, 4, 0, 2 + 8, 2 + 8)
                .run();
    }

    /** In tick 11 the last flit of LOCAL moves, and SOUTH gets the output in the same tick. */
    private static void inTheTickInWhichItIsFreed() {
        WormMesh mesh = southThenBoth();
        mesh.run(2);
        new Watch(mesh)
                .lane(1, 0, 0, 0, 0)
                .lane(1, 4, 0, 2 + 16, 1 + 16)
                .output(1, 0, 0, 2 + 8, 2 + 8)
                .run();
    }

    /** "each output": those of two channels at one port are granted in one tick, tick 6. */
    private static void oneOutputOfEachChannel() {
        WormMesh mesh = new WormMesh(2, 1, 4, 2);
        mesh.request(0, 1, false, 0, 0);
        mesh.run(3);
        mesh.request(1, 1, false, 0, 0);
        mesh.run(2);
        new Watch(mesh)
                .lane(1, 0, 0, 18)
                .lane(1, 2, 1, 18)
                .output(1, 0, 0, 12)
                .output(1, 0, 1, 12)
                .output(1, 0, 2, 4)
                .output(1, 0, 3, 4)
                .run();
    }

    /** "For each router and each output": two lanes of one channel with two ways, in tick 6. */
    private static void twoWaysInOneTick() {
        WormMesh mesh = new WormMesh(3, 1, 4, 1);
        mesh.request(0, 1, false, 0, 0);
        mesh.request(2, 0, false, 0, 0);
        mesh.run(5);
        new Watch(mesh)
                .lane(1, 2, 0, 2 + 16)
                .lane(1, 1, 0, 2 + 16 + 2 * 64)
                .output(1, 0, 0, 12)
                .output(1, 2, 0, 12)
                .output(1, 1, 0, 4)
                .run();
    }

    /**
     * "and this output port as its way": two writes from node 2 to the held node 0 are stuck, so a
     * read of node 1 to the WEST stays in stage 1. A read from node 0 gets the output LOCAL of node
     * 1, though its port, WEST, comes after LOCAL.
     */
    private static void onlyTheLanesOnThisWay() {
        WormMesh mesh = new WormMesh(3, 1, 1, 1);
        mesh.hold(0, true);
        mesh.request(2, 0, true, 0, 0);
        mesh.request(2, 0, true, 0, 0);
        mesh.run(40);
        mesh.request(1, 0, false, 0, 0);
        mesh.run(10);
        Due.is("WEST is taken", 8, mesh.output(1, 2, 0));
        mesh.request(0, 1, false, 0, 0);
        mesh.run(4);
        new Watch(mesh)
                .lane(1, 0, 0, 1 + 8 + 128, 1 + 8 + 128, 1 + 8 + 128)
                .lane(1, 2, 0, 1 + 8, 1 + 16, 16)
                .output(1, 0, 0, 1, 9, 8)
                .run();
        Due.is("run(60)", 1, mesh.run(60));
    }

    /** "All stages and turns are 0 at first": LOCAL goes before EAST, and EAST before WEST. */
    private static void turnAt0AtFirst() {
        WormMesh mesh = new WormMesh(2, 1, 4, 1);
        mesh.request(1, 0, false, 0, 0);
        mesh.run(3);
        mesh.request(0, 0, false, 0, 0);
        mesh.run(2);
        new Watch(mesh).lane(0, 0, 0, 2 + 16).lane(0, 1, 0, 2 + 8).run();
        mesh = new WormMesh(3, 1, 4, 1);
        mesh.request(0, 1, false, 0, 0);
        mesh.request(2, 1, false, 0, 0);
        mesh.run(5);
        new Watch(mesh).lane(1, 1, 0, 2 + 16).lane(1, 2, 0, 2 + 8).run();
    }

    /** "the first one from the output's own TURN on": after EAST had it, WEST goes before EAST. */
    private static void fromTheTurnOn() {
        WormMesh mesh = new WormMesh(3, 1, 4, 1);
        mesh.request(2, 1, false, 0, 0);
        mesh.run(60);
        mesh.request(0, 1, false, 0, 0);
        mesh.request(2, 1, false, 0, 0);
        mesh.run(5);
        new Watch(mesh).lane(1, 1, 0, 2 + 8).lane(1, 2, 0, 2 + 16).run();
        mesh.run(60);
        Due.is("WEST first", 1, mesh.reply(1, 0));
        Due.is("then EAST", 2, mesh.reply(2, 0));
    }

    /** "port by port, from 4 on to 0": after LOCAL the turn is 1, and LOCAL gets it again. */
    private static void from4OnTo0() {
        WormMesh mesh = new WormMesh(1, 1, 4, 1);
        for (int i = 0; i < 4; i++) {
            mesh.request(0, 0, false, 0, 0);
            mesh.run(3);
            Due.is("stage and flits of read " + i, 2 + 16, mesh.lane(0, 0, 0));
            Due.is("run(20)", 1, mesh.run(20));
        }
    }

    /** "the output's turn becomes the next port (0 after 4)": after SOUTH, LOCAL goes first. */
    private static void turn0After4() {
        new Watch(southThenBoth()).lane(1, 0, 0, 2 + 16).lane(1, 4, 0, 2 + 8).run();
    }

    /** From turn 0 WEST, port 2, gets the output: the turn is 3, and LOCAL goes before EAST. */
    private static void turnAfterThePortThatGotIt() {
        WormMesh mesh = new WormMesh(3, 1, 4, 1);
        mesh.request(0, 1, false, 0, 0);
        mesh.run(60);
        mesh.request(2, 1, false, 0, 0);
        mesh.run(3);
        mesh.request(1, 1, false, 0, 0);
        mesh.run(2);
        new Watch(mesh).lane(1, 0, 0, 2 + 16).lane(1, 1, 0, 2 + 8).run();
    }

    /**
     * At node 1 a reply from EAST has moved the turns of other outputs: that of the same port in
     * another channel, and that of the port itself. The output of channel 1 still has turn 0, so
     * EAST goes before WEST. Likewise after a packet of channel 0 that passed from EAST to WEST.
     */
    private static void theOutputsOwnTurn() {
        WormMesh mesh = new WormMesh(3, 1, 4, 2);
        mesh.request(1, 2, false, 0, 0);
        mesh.run(60);
        mesh.request(0, 1, false, 0, 0);
        mesh.request(2, 1, false, 0, 0);
        mesh.run(5);
        new Watch(mesh).lane(1, 1, 1, 2 + 16).lane(1, 2, 1, 2 + 8).run();

        mesh = new WormMesh(3, 1, 4, 1);
        mesh.request(2, 0, false, 0, 0);
        mesh.run(60);
        mesh.request(0, 1, false, 0, 0);
        mesh.request(2, 1, false, 0, 0);
        mesh.run(5);
        new Watch(mesh).lane(1, 1, 0, 2 + 16).lane(1, 2, 0, 2 + 8).run();
    }
}
