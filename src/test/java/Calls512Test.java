/** "An object is used for at most 512 calls": the 512th is answered like the first. */
public final class Calls512Test {
    private static final WormMesh MESH = new WormMesh(3, 3, 2, 2);
    private static int calls;

    public static void main(String[] args) {
        int complete = 0;
        for (int made = 0; made < 400; made++) {
            Due.is("request " + made, made, count(MESH.request(made % 9, made % 9, true, 0, made)));
            if (made % 36 == 35) {
                complete += count(MESH.run(60));
            }
        }
        complete += count(MESH.run(60));
        Due.is("complete", 400, complete);
        for (int i = 0; i < 99; i++) {
            Due.is("tick of reply " + i, true, count(MESH.reply(i, 2)) > 0);
        }
        Due.is("ticks()", 720, count(MESH.ticks()));
        Due.is("calls", 512, calls);
        Due.end();
    }

    private static int count(int answer) {
        calls++;
        return answer;
    }
}
