/** Promise 7: how many replies are complete, each of them counted with its last flit. */
public final class Promise07RepliesTest {
    public static void main(String[] args) {
        WormMesh mesh = new WormMesh(1, 1, 4, 1);
        Due.is("at first", 0, mesh.replies());
        mesh.request(0, 0, false, 0, 0);
        Due.is("a request is no reply", 0, mesh.replies());
        mesh.run(10);
        Due.is("the first flit is taken, the last is not", 0, mesh.replies());
        mesh.run(1);
        Due.is("the last is taken", 1, mesh.replies());
        mesh.run(60);
        Due.is("it stays", 1, mesh.replies());
        mesh.request(0, 0, true, 0, 0);
        mesh.request(0, 0, false, 0, 0);
        mesh.run(60);
        Due.is("two more", 3, mesh.replies());
        mesh.run(61);
        Due.is("after a refused run", 3, mesh.replies());
        Due.end();
    }
}
