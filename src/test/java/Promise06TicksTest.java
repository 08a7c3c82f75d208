/** Promise 6: how many ticks went by. */
public final class Promise06TicksTest {
    public static void main(String[] args) {
        WormMesh mesh = new WormMesh(1, 1, 1, 1);
        Due.is("at first", 0, mesh.ticks());
        mesh.run(0);
        Due.is("after run(0)", 0, mesh.ticks());
        mesh.run(1);
        Due.is("after run(1)", 1, mesh.ticks());
        mesh.run(61);
        mesh.run(-1);
        Due.is("after refused runs", 1, mesh.ticks());
        mesh.request(0, 0, false, 0, 0);
        mesh.hold(0, true);
        Due.is("after other calls", 1, mesh.ticks());
        for (int i = 0; i < 400; i++) {
            mesh.run(60);
        }
        Due.is("after 400 long runs", 24001, mesh.ticks());
        Due.end();
    }
}
