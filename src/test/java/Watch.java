import java.util.ArrayList;
import java.util.List;
import java.util.function.IntSupplier;

/** Lets ticks go by one at a time and looks after each: one answer is due for each tick. */
final class Watch {
    private record Row(String call, IntSupplier look, int[] due) {
    }

    private final WormMesh mesh;
    private final List<Row> rows = new ArrayList<>();

    Watch(WormMesh mesh) {
        this.mesh = mesh;
    }

    Watch lane(int node, int port, int channel, int... due) {
        String call = "lane(" + node + ", " + port + ", " + channel + ")";
        return add(call, () -> mesh.lane(node, port, channel), due);
    }

    Watch output(int node, int port, int channel, int... due) {
        String call = "output(" + node + ", " + port + ", " + channel + ")";
        return add(call, () -> mesh.output(node, port, channel), due);
    }

    Watch arrival(int node, int channel, int... due) {
        String call = "arrival(" + node + ", " + channel + ")";
        return add(call, () -> mesh.arrival(node, channel), due);
    }

    Watch waiting(int node, int... due) {
        return add("waiting(" + node + ")", () -> mesh.waiting(node), due);
    }

    Watch memory(int node, int word, int... due) {
        return add("memory(" + node + ", " + word + ")", () -> mesh.memory(node, word), due);
    }

    Watch replies(int... due) {
        return add("replies()", mesh::replies, due);
    }

    Watch sent(int... due) {
        return add("sent()", mesh::sent, due);
    }

    private Watch add(String call, IntSupplier look, int[] due) {
        rows.add(new Row(call, look, due));
        return this;
    }

    void run() {
        int ticks = rows.get(0).due().length;
        for (Row row : rows) {
            Due.is("answers that are due for " + row.call(), ticks, row.due().length);
        }
        for (int i = 0; i < ticks; i++) {
            mesh.run(1);
            for (Row row : rows) {
                String call = row.call() + " after tick " + mesh.ticks();
                Due.is(call, row.due()[i], row.look().getAsInt());
            }
        }
    }
}
