/** A tick, part 2: what is taken out of the arrival lanes, and what is not. */
public final class Tick2TakingTest {
    public static void main(String[] args) {
        anEmptyLane();
        oneFlitOfALane();
        oneFlitOfEachChannel();
        channelsInTheirOrder();
        aCreditIsGivenBack();
        theLastFlitWhileHeld();
        otherFlitsWhileHeld();
        flitsOfRepliesWhileHeld();
        theLastFlitWhileTwoRepliesWait();
        theLastFlitWhileOneReplyWaits();
        aSecondReplyInTheSameTick();
        otherFlitsWhileTwoRepliesWait();
        flitsOfRepliesWhileTwoWait();
        servedWithTheLastFlit();
        aReplyWaitsBehindTheOthers();
        completeWithTheLastFlit();
        completeInTheOrderOfNodes();
        Due.end();
    }

    /** "the first flit of the arrival lane, if there is one": there is none. */
    private static void anEmptyLane() {
        WormMesh mesh = new WormMesh(2, 1, 3, 1);
        mesh.run(60);
        Due.is("replies()", 0, mesh.replies());
        for (int node = 0; node < 2; node++) {
            Due.is("waiting(" + node + ")", 0, mesh.waiting(node));
            for (int channel = 0; channel < 2; channel++) {
                Due.is("arrival(" + node + ", " + channel + ")", 24, mesh.arrival(node, channel));
                Due.is("credits of LOCAL", 3, mesh.output(node, 0, channel));
            }
        }
    }

    /** Two writes to itself, held: the last flit of the first and three of the second are there. */
    private static void oneFlitOfALane() {
        WormMesh mesh = new WormMesh(1, 1, 4, 1);
        mesh.hold(0, true);
        mesh.request(0, 0, true, 0, 1);
        mesh.request(0, 0, true, 0, 1);
        mesh.run(20);
        mesh.hold(0, false);
        new Watch(mesh).arrival(0, 0, 35, 34, 33, 32, 32).run();
    }

    /**
     * Node 1 of a mesh with V = 2 was held: two reads of its own in arrival lane 0, two of node 0
     * in arrival lane 1, of each the first flit is taken already. The next tick is tick 31.
     */
    private static WormMesh fourReads() {
        WormMesh mesh = new WormMesh(2, 1, 4, 2);
        mesh.hold(1, true);
        mesh.request(1, 1, false, 0, 0);
        mesh.request(1, 1, false, 0, 0);
        mesh.request(0, 1, false, 0, 0);
        mesh.request(0, 1, false, 0, 0);
        mesh.run(30);
        Due.is("arrival(1, 0)", 3 + 32, mesh.arrival(1, 0));
        Due.is("arrival(1, 1)", 3 + 32, mesh.arrival(1, 1));
        Due.is("sent()", 0, mesh.sent());
        mesh.hold(1, false);
        return mesh;
    }

    /** "for its channels 0, 1, .. : the first flit": one of each of them in one tick. */
    private static void oneFlitOfEachChannel() {
        new Watch(fourReads()).arrival(1, 0, 34, 33).arrival(1, 1, 34, 33).run();
    }

    /** "for its channels 0, 1, ..": with channel 0 a word is written that channel 1 reads. */
    private static void channelsInTheirOrder() {
        WormMesh mesh = new WormMesh(2, 1, 4, 2);
        mesh.hold(1, true);
        mesh.request(0, 1, true, 4, 61);
        mesh.request(1, 1, true, 4, 60);
        mesh.run(30);
        mesh.hold(1, false);
        mesh.run(1);
        Due.is("both are served, one has been sent", 8, mesh.waiting(1));
        Due.is("that of channel 1 came later", 61, mesh.memory(1, 4));
        Due.is("the reply of channel 0 went first", 24, mesh.arrival(1, 2));
        Due.is("then that of channel 1", 32, mesh.arrival(1, 3));
        mesh.run(30);
        Due.is("reply(0, 0)", 1, mesh.reply(0, 0));
        Due.is("reply(0, 1)", 0, mesh.reply(0, 1));
        Due.is("reply(1, 0)", 0, mesh.reply(1, 0));
        Due.is("reply(1, 1)", 60, mesh.reply(1, 1));
    }

    /** "a credit is given back to the output": it comes in with the tick after the taking. */
    private static void aCreditIsGivenBack() {
        WormMesh mesh = new WormMesh(1, 1, 1, 1);
        mesh.hold(0, true);
        mesh.request(0, 0, false, 0, 0);
        mesh.run(20);
        Due.is("not taken, no credit", 0, mesh.output(0, 0, 0));
        mesh.hold(0, false);
        new Watch(mesh).arrival(0, 0, 8, 8).output(0, 0, 0, 0, 1).run();
    }

    /** "the last flit of a request is not taken while its node is HELD". */
    private static void theLastFlitWhileHeld() {
        for (int write = 0; write <= 1; write++) {
            WormMesh mesh = new WormMesh(1, 1, 4, 1);
            mesh.hold(0, true);
            mesh.request(0, 0, write == 1, 6, 42);
            mesh.run(40);
            Due.is("it is still there", 1 + 32, mesh.arrival(0, 0));
            Due.is("no reply waits", 0, mesh.waiting(0));
            Due.is("memory(0, 6)", 0, mesh.memory(0, 6));
            mesh.hold(0, false);
            mesh.run(1);
            Due.is("it is taken", 32, mesh.arrival(0, 0));
            Due.is("memory(0, 6)", write == 1 ? 42 : 0, mesh.memory(0, 6));
        }
    }

    /** The first two of three flits come in with ticks 5 and 6, and are taken all the same. */
    private static void otherFlitsWhileHeld() {
        WormMesh mesh = new WormMesh(1, 1, 4, 1);
        mesh.hold(0, true);
        mesh.request(0, 0, true, 0, 1);
        mesh.run(4);
        new Watch(mesh).arrival(0, 0, 16, 24, 33, 33).output(0, 0, 0, 10, 2, 3, 3).run();
    }

    /** It is only requests that a held node keeps: both flits of a reply are taken there. */
    private static void flitsOfRepliesWhileHeld() {
        for (int write = 0; write <= 1; write++) {
            WormMesh mesh = new WormMesh(2, 1, 4, 1);
            mesh.hold(0, true);
            mesh.request(0, 1, write == 1, 0, 1);
            Due.is("run(16)", 0, mesh.run(16));
            Due.is("run(1)", 1, mesh.run(1));
            Due.is("arrival(0, 1)", 32, mesh.arrival(0, 1));
        }
    }

    /**
     * "or while two replies wait there": with channel 0 of tick 33 two replies wait again, so the
     * last flit in channel 1 stays in ticks 33 and 34; in tick 34 the last flit of a reply goes.
     */
    private static void theLastFlitWhileTwoRepliesWait() {
        new Watch(fourReads())
                .waiting(1, 16, 8, 16, 8, 16, 8, 8, 0)
                .arrival(1, 0, 34, 33, 32, 32, 32, 32, 32, 32)
                .arrival(1, 1, 34, 33, 33, 33, 32, 32, 32, 32)
                .run();
    }

    /** In tick 33 one reply waits, and the last flit in channel 0 is taken. */
    private static void theLastFlitWhileOneReplyWaits() {
        WormMesh mesh = fourReads();
        mesh.run(2);
        Due.is("one reply waits", 8, mesh.waiting(1));
        mesh.run(1);
        Due.is("now two", 16, mesh.waiting(1));
        Due.is("arrival(1, 0)", 32, mesh.arrival(1, 0));
    }

    /** In tick 31 no reply waits: the last flits of both channels are taken. */
    private static void aSecondReplyInTheSameTick() {
        WormMesh mesh = fourReads();
        mesh.run(1);
        Due.is("two replies wait", 16, mesh.waiting(1));
    }

    /** In tick 32 two replies wait: the first flits of the next requests are taken all the same. */
    private static void otherFlitsWhileTwoRepliesWait() {
        WormMesh mesh = fourReads();
        mesh.run(1);
        Due.is("two replies wait", 16, mesh.waiting(1));
        mesh.run(1);
        Due.is("arrival(1, 0)", 33, mesh.arrival(1, 0));
        Due.is("arrival(1, 1)", 33, mesh.arrival(1, 1));
    }

    /**
     * Node 1 is held with the last flits of two requests in channels 0 and 1, until the first flit
     * of a reply is on its way to its arrival lane 3. With the next tick two replies wait, and
     * they do so for four ticks, but the flits of the reply are taken: that to a write is complete
     * at once, that to a read two ticks later.
     */
    private static void flitsOfRepliesWhileTwoWait() {
        for (int write = 0; write <= 1; write++) {
            WormMesh mesh = new WormMesh(2, 1, 1, 2);
            mesh.hold(1, true);
            mesh.request(1, 1, false, 0, 0);
            mesh.request(0, 1, false, 0, 0);
            mesh.run(30);
            mesh.request(1, 0, write == 1, 0, 1);
            for (int i = 0; i < 30 && mesh.output(1, 0, 3) % 8 == 1; i++) {
                mesh.run(1);
            }
            Due.is("a flit is sent to arrival lane 3", 0, mesh.output(1, 0, 3) % 8);
            mesh.hold(1, false);
            Due.is("run(1)", write, mesh.run(1));
            Due.is("two replies wait", 16, mesh.waiting(1));
            Due.is("the flit is taken", 0, mesh.arrival(1, 3) % 8);
            Due.is("run(2)", 1 - write, mesh.run(2));
            Due.is("two replies wait", 16, mesh.waiting(1));
        }
    }

    /** "With the last flit of a request the word is read or written". */
    private static void servedWithTheLastFlit() {
        WormMesh mesh = new WormMesh(1, 1, 4, 1);
        mesh.request(0, 0, true, 5, -1);
        new Watch(mesh)
                .memory(0, 5, 0, 0, 0, 0, 0, 0, -1, -1)
                .memory(0, 4, 0, 0, 0, 0, 0, 0, 0, 0)
                .run();
        // A read whose first flit is taken before a write is served, and whose last one after it.
        mesh = new WormMesh(2, 1, 4, 2);
        mesh.hold(1, true);
        mesh.request(0, 1, false, 2, 0);
        mesh.run(20);
        mesh.request(1, 1, true, 2, 8);
        mesh.run(20);
        mesh.hold(1, false);
        mesh.run(20);
        Due.is("word of the write", 0, mesh.reply(0, 1));
        Due.is("word of the read", 8, mesh.reply(1, 1));
    }

    /**
     * "the reply waits there, behind the others": two flits go in channel 2, two in channel 3, two
     * in channel 2 (for each of these two a credit is back), two in channel 3 (likewise).
     */
    private static void aReplyWaitsBehindTheOthers() {
        new Watch(fourReads())
                .arrival(1, 2, 24, 16, 16, 16, 16, 16, 16, 16)
                .arrival(1, 3, 32, 32, 24, 16, 16, 16, 16, 16)
                .run();
    }

    /** "With the last flit of a reply the reply is COMPLETE". */
    private static void completeWithTheLastFlit() {
        WormMesh mesh = new WormMesh(1, 1, 4, 1);
        mesh.request(0, 0, false, 0, 0);
        new Watch(mesh).replies(0, 0, 0, 0, 0, 0, 0, 0, 0, 0, 1, 1).run();
    }

    /** "those that become complete in one tick do so in the order of their nodes". */
    private static void completeInTheOrderOfNodes() {
        WormMesh mesh = new WormMesh(3, 1, 2, 1);
        mesh.request(2, 2, false, 0, 0);
        mesh.request(0, 0, false, 0, 0);
        mesh.request(1, 1, false, 0, 0);
        Due.is("run(11)", 3, mesh.run(11));
        int[] number = {1, 2, 0};
        for (int i = 0; i < 3; i++) {
            Due.is("reply(" + i + ", 0)", number[i], mesh.reply(i, 0));
            Due.is("reply(" + i + ", 2)", 11, mesh.reply(i, 2));
        }
    }
}
