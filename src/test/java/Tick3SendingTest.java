/** A tick, part 3: which flit an interface sends, and when it sends none. */
public final class Tick3SendingTest {
    public static void main(String[] args) {
        nothingWaits();
        replyFirst();
        replyBetweenTheFlitsOfARequest();
        atMostOneFlit();
        requestWhileTheReplyHasNoCredit();
        noneWithoutACredit();
        aSingleCreditIsEnough();
        onlyTheRequestThatWaitsFirst();
        onlyTheReplyThatWaitsFirst();
        aHeldNodeSends();
        waitsNoMoreWithItsLastFlit();
        Due.end();
    }

    /** "otherwise none": nothing waits. */
    private static void nothingWaits() {
        WormMesh mesh = new WormMesh(3, 3, 4, 2);
        new Watch(mesh).sent(0, 0, 0).waiting(4, 0, 0, 0).arrival(4, 0, 32, 32, 32).run();
    }

    /** A read of a node's own that is served in tick 6, and a request that waits there by then. */
    private static WormMesh replyAndRequest() {
        WormMesh mesh = new WormMesh(1, 1, 4, 1);
        mesh.request(0, 0, false, 0, 0);
        mesh.run(5);
        mesh.request(0, 0, false, 0, 0);
        return mesh;
    }

    /** "the next one of the reply that waits first": in ticks 6 and 7; then the request. */
    private static void replyFirst() {
        new Watch(replyAndRequest())
                .waiting(0, 9, 1, 1, 0)
                .arrival(0, 0, 32, 32, 24, 16)
                .arrival(0, 1, 24, 16, 16, 16)
                .run();
    }

    /** With D = 2 the second read has sent a flit in tick 5; a reply goes before its other one. */
    private static void replyBetweenTheFlitsOfARequest() {
        WormMesh mesh = new WormMesh(1, 1, 2, 1);
        mesh.request(0, 0, false, 0, 0);
        mesh.request(0, 0, false, 0, 0);
        mesh.run(4);
        new Watch(mesh)
                .waiting(0, 1, 9, 1, 0)
                .arrival(0, 0, 0, 8, 8, 0)
                .arrival(0, 1, 16, 8, 0, 0)
                .run();
    }

    /** "at most one flit": both have credits; in tick 9 the router sends one, too. */
    private static void atMostOneFlit() {
        new Watch(replyAndRequest()).sent(1, 1, 1, 2).run();
    }

    /**
     * Two reads of a node's own with D = 1. The first reply has no credit for its last flit from
     * tick 8 on to tick 10, the second request has one for its first flit in tick 8.
     */
    private static WormMesh twoReads() {
        WormMesh mesh = new WormMesh(1, 1, 1, 1);
        mesh.request(0, 0, false, 0, 0);
        mesh.request(0, 0, false, 0, 0);
        mesh.run(6);
        return mesh;
    }

    /** "otherwise the next one of the request that waits first"; the reply goes on in tick 11. */
    private static void requestWhileTheReplyHasNoCredit() {
        new Watch(twoReads())
                .arrival(0, 0, 8, 0, 0, 0, 0, 0)
                .arrival(0, 1, 0, 0, 0, 0, 0, 0)
                .waiting(0, 9, 9, 9, 9, 1, 0)
                .sent(1, 1, 0, 1, 2, 2)
                .run();
    }

    /** "if the sender of its channel has a credit ... otherwise none": neither has in tick 9. */
    private static void noneWithoutACredit() {
        WormMesh mesh = twoReads();
        mesh.run(2);
        Due.is("no credit for requests", 0, mesh.arrival(0, 0));
        Due.is("no credit for replies", 0, mesh.arrival(0, 1));
        mesh.run(1);
        Due.is("sent() in tick 9", 0, mesh.sent());
        Due.is("waiting(0)", 9, mesh.waiting(0));
    }

    /** With D = 1 there is never more than one credit, and all goes on; with D = 2 the last too. */
    private static void aSingleCreditIsEnough() {
        WormMesh mesh = new WormMesh(1, 1, 1, 1);
        mesh.request(0, 0, true, 0, 1);
        new Watch(mesh).arrival(0, 0, 0, 0, 0, 0, 0, 0, 0, 0, 8).run();
        mesh = new WormMesh(1, 1, 2, 1);
        mesh.request(0, 0, false, 0, 1);
        new Watch(mesh).arrival(0, 0, 8, 0, 0, 0, 8, 16).waiting(0, 1, 0, 0, 0, 0, 8).run();
    }

    /**
     * The second request has no credit in tick 6; the third, of another channel, has one from the
     * start, but its first flit goes in tick 13, after the last one of the second.
     */
    private static void onlyTheRequestThatWaitsFirst() {
        WormMesh mesh = new WormMesh(2, 1, 1, 2);
        mesh.request(0, 0, false, 0, 0);
        mesh.request(0, 0, false, 0, 0);
        mesh.request(0, 1, false, 0, 0);
        new Watch(mesh)
                .waiting(0, 3, 3, 3, 3, 2, 2, 10, 10, 10, 10, 2, 1, 1)
                .arrival(0, 0, 0, 0, 0, 0, 0, 0, 8, 0, 0, 0, 0, 0, 0)
                .arrival(0, 1, 8, 8, 8, 8, 8, 8, 8, 8, 8, 8, 8, 8, 0)
                .run();
    }

    /**
     * In tick 13 a reply in channel 2 waits first at node 3, without a credit, and behind it one
     * in channel 3, which has one: none is sent. In tick 14 the credit is there, for one flit.
     */
    private static void onlyTheReplyThatWaitsFirst() {
        WormMesh mesh = new WormMesh(2, 2, 1, 2);
        mesh.request(1, 3, false, 0, 0);
        mesh.request(3, 3, false, 0, 0);
        mesh.request(2, 3, true, 0, 0);
        mesh.run(11);
        new Watch(mesh)
                .waiting(3, 8, 16, 16, 16, 16, 16, 8)
                .arrival(3, 2, 0, 0, 0, 0, 0, 0, 0)
                .arrival(3, 3, 8, 8, 8, 8, 8, 8, 8)
                .run();
        mesh.run(1);
        Due.is("now the second one goes", 0, mesh.arrival(3, 3));
        Due.is("and waits no more", 0, mesh.waiting(3));
    }

    /** Only the taking looks at whether a node is held. */
    private static void aHeldNodeSends() {
        WormMesh mesh = new WormMesh(2, 1, 4, 1);
        mesh.hold(0, true);
        mesh.request(0, 1, true, 0, 1);
        new Watch(mesh).waiting(0, 1, 1, 0).sent(1, 1, 1).run();
        // Held when the first flit of its reply has gone, a node sends the last one all the same.
        mesh = new WormMesh(1, 1, 4, 1);
        mesh.request(0, 0, false, 0, 1);
        mesh.run(6);
        mesh.hold(0, true);
        new Watch(mesh).waiting(0, 0).sent(1).run();
    }

    /** "With its last flit a packet waits no more": a write, a reply to a write, one to a read. */
    private static void waitsNoMoreWithItsLastFlit() {
        WormMesh mesh = new WormMesh(1, 1, 4, 1);
        mesh.request(0, 0, true, 0, 1);
        mesh.request(0, 0, false, 0, 1);
        new Watch(mesh).waiting(0, 2, 2, 1, 1, 0, 0, 0, 0, 0, 8, 0, 0).run();
    }
}
