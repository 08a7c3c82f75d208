/** Promise 8: number, word and tick of the complete replies, in their order. */
public final class Promise08ReplyTest {
    public static void main(String[] args) {
        numberWordAndTick();
        inTheirOrder();
        firstTickIs1();
        noneAtFirst();
        tooSmall();
        tooLarge();
        firstAndLast();
        whatTooSmall();
        whatTooLarge();
        fourHundred();
        Due.end();
    }

    /** Node 0 has written to itself in the first ticks; the write to node 1 is held. */
    private static WormMesh oneComplete() {
        WormMesh mesh = new WormMesh(2, 1, 2, 1);
        mesh.hold(1, true);
        mesh.request(0, 1, true, 0, 3);
        mesh.request(0, 0, true, 0, 4);
        mesh.request(0, 0, true, 0, 5);
        mesh.run(60);
        Due.is("two are complete", 2, mesh.replies());
        return mesh;
    }

    private static void numberWordAndTick() {
        WormMesh mesh = new WormMesh(2, 1, 4, 1);
        mesh.request(0, 0, true, 2, 7);
        mesh.run(30);
        mesh.request(0, 1, true, 2, -8);
        mesh.run(30);
        mesh.request(0, 0, false, 2, 99);
        mesh.run(30);
        int[] word = {0, 0, 7};
        int[] tick = {11, 47, 71};
        for (int i = 0; i < 3; i++) {
            Due.is("reply(" + i + ", 0)", i, mesh.reply(i, 0));
            Due.is("reply(" + i + ", 1)", word[i], mesh.reply(i, 1));
            Due.is("reply(" + i + ", 2)", tick[i], mesh.reply(i, 2));
        }
        mesh.request(0, 0, true, 2, 1);
        mesh.run(60);
        Due.is("the word of an older reply stays", 7, mesh.reply(2, 1));
    }

    /** "in their order": in which they became complete, not that of their numbers. */
    private static void inTheirOrder() {
        WormMesh mesh = oneComplete();
        Due.is("reply(0, 0)", 1, mesh.reply(0, 0));
        Due.is("reply(1, 0)", 2, mesh.reply(1, 0));
        Due.is("reply(1, 1)", 4, mesh.reply(1, 1));
        mesh.hold(1, false);
        mesh.run(60);
        Due.is("reply(2, 0)", 0, mesh.reply(2, 0));
    }

    /** "(the first is 1)": no reply is complete before tick 11, but ticks are counted from 1. */
    private static void firstTickIs1() {
        WormMesh mesh = new WormMesh(1, 1, 4, 1);
        mesh.request(0, 0, true, 0, 0);
        int ticks = 0;
        while (ticks < 60 && mesh.run(1) == 0) {
            ticks++;
        }
        Due.is("ticks before it", 10, ticks);
        Due.is("reply(0, 2)", ticks + 1, mesh.reply(0, 2));
    }

    /** "BAD when there is none": nothing is complete. */
    private static void noneAtFirst() {
        WormMesh mesh = new WormMesh(1, 1, 4, 1);
        mesh.request(0, 0, true, 0, 0);
        mesh.run(10);
        for (int what = 0; what <= 2; what++) {
            Due.is("reply(0, " + what + ")", WormMesh.BAD, mesh.reply(0, what));
        }
    }

    private static void tooSmall() {
        WormMesh mesh = oneComplete();
        for (int wrong : new int[] {Integer.MIN_VALUE, -400, -2, -1}) {
            for (int what = -1; what <= 3; what++) {
                String call = "reply(" + wrong + ", " + what + ")";
                Due.is(call, WormMesh.BAD, mesh.reply(wrong, what));
            }
        }
    }

    private static void tooLarge() {
        WormMesh mesh = oneComplete();
        for (int wrong : new int[] {2, 3, 399, 400, 401, Integer.MAX_VALUE}) {
            for (int what = -1; what <= 3; what++) {
                String call = "reply(" + wrong + ", " + what + ")";
                Due.is(call, WormMesh.BAD, mesh.reply(wrong, what));
            }
        }
    }

    private static void firstAndLast() {
        WormMesh mesh = oneComplete();
        for (int what = 0; what <= 2; what++) {
            Due.is("reply(0, " + what + ")", true, mesh.reply(0, what) >= 0);
            Due.is("reply(1, " + what + ")", true, mesh.reply(1, what) >= 0);
        }
    }

    /** "or what is not 0 .. 2": less than 0. */
    private static void whatTooSmall() {
        WormMesh mesh = oneComplete();
        for (int wrong : new int[] {-1, -2, Integer.MIN_VALUE}) {
            Due.is("reply(0, " + wrong + ")", WormMesh.BAD, mesh.reply(0, wrong));
            Due.is("reply(1, " + wrong + ")", WormMesh.BAD, mesh.reply(1, wrong));
        }
    }

    /** "or what is not 0 .. 2": more than 2. */
    private static void whatTooLarge() {
        WormMesh mesh = oneComplete();
        for (int wrong : new int[] {3, 4, Integer.MAX_VALUE}) {
            Due.is("reply(0, " + wrong + ")", WormMesh.BAD, mesh.reply(0, wrong));
            Due.is("reply(1, " + wrong + ")", WormMesh.BAD, mesh.reply(1, wrong));
        }
    }

    /** All 400 replies that there can be: the last one is there, and none after it. */
    private static void fourHundred() {
        WormMesh mesh = new WormMesh(3, 3, 4, 2);
        for (int made = 0; made < 400; made++) {
            mesh.request(made % 9, made % 9, true, 0, made + 1);
            if (made % 36 == 35) {
                mesh.run(60);
            }
        }
        mesh.run(60);
        Due.is("replies()", 400, mesh.replies());
        Due.is("reply(399, 0)", 399, mesh.reply(399, 0));
        Due.is("reply(399, 1)", 391, mesh.reply(399, 1));
        Due.is("reply(400, 0)", WormMesh.BAD, mesh.reply(400, 0));
    }
}
