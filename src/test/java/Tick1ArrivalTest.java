/** A tick, part 1: flits and credits of the tick before come in. */
public final class Tick1ArrivalTest {
    public static void main(String[] args) {
        flitsComeInWithTheNextTick();
        creditsComeInWithTheNextTick();
        flitsGoToTheEnd();
        nothingComesIn();
        Due.end();
    }

    /** "What was sent in the tick before comes in": a read, from the sender to the arrival lane. */
    private static void flitsComeInWithTheNextTick() {
        WormMesh mesh = new WormMesh(1, 1, 4, 1);
        mesh.hold(0, true);
        mesh.request(0, 0, false, 0, 0);
        new Watch(mesh)
                .sent(1, 1, 0, 1, 1, 0, 0)
                .lane(0, 0, 0, 0, 9, 18, 17, 0, 0, 0)
                .arrival(0, 0, 24, 16, 16, 16, 24, 33, 33)
                .run();
    }

    /** "each credit that was given back is added": of the sender, of LOCAL, and of a neighbour. */
    private static void creditsComeInWithTheNextTick() {
        WormMesh mesh = new WormMesh(2, 1, 4, 1);
        mesh.request(0, 1, false, 0, 0);
        new Watch(mesh)
                .arrival(0, 0, 24, 16, 16, 16, 24, 32, 32, 32, 32, 32)
                .output(0, 1, 0, 4, 4, 12, 11, 2, 2, 2, 3, 4, 4)
                .output(1, 0, 0, 4, 4, 4, 4, 4, 12, 11, 2, 3, 4)
                .run();
    }

    /** "each flit goes into its lane, at the end": behind a packet that is still there. */
    private static void flitsGoToTheEnd() {
        WormMesh mesh = new WormMesh(1, 1, 4, 1);
        mesh.hold(0, true);
        mesh.request(0, 0, true, 0, 5);
        mesh.request(0, 0, true, 0, 6);
        mesh.run(20);
        Due.is("the last of the first, three of the second", 4, mesh.arrival(0, 0) % 8);
        mesh.hold(0, false);
        mesh.run(1);
        Due.is("the first is served", 5, mesh.memory(0, 0));
        mesh.run(2);
        Due.is("not yet the second", 5, mesh.memory(0, 0));
        mesh.run(1);
        Due.is("the second is served", 6, mesh.memory(0, 0));
        mesh.run(20);
        Due.is("reply(0, 0)", 0, mesh.reply(0, 0));
        Due.is("reply(1, 0)", 1, mesh.reply(1, 0));
        Due.is("reply(1, 1)", 5, mesh.reply(1, 1));
    }

    /** Where nothing was sent or given back, nothing comes in. */
    private static void nothingComesIn() {
        WormMesh mesh = new WormMesh(1, 1, 2, 1);
        mesh.request(0, 0, true, 0, 1);
        mesh.run(60);
        String before = State.of(mesh).replaceFirst("60 ", "");
        mesh.run(40);
        Due.is("state after 40 idle ticks", before, State.of(mesh).replaceFirst("100 ", ""));
        Due.is("arrival(0, 0)", 16, mesh.arrival(0, 0));
        Due.is("output(0, 0, 0)", 2, mesh.output(0, 0, 0));
    }
}
