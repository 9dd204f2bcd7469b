import java.lang.management.ManagementFactory;
import java.util.function.IntConsumer;

/** What the dearest runs of 512 calls make: objects and their rows must fit into one room many times over. */
final class RoomTest {
    /** The room has 7.3 million fields and elements, of four bytes or more: what is due is a small part of it. */
    private static final long MOST_BYTES = 1_000_000;

    public static void main(String[] args) {
        Palettehouse warm = new Palettehouse();
        warm.addLayer('p', -1);
        Check.looksOf(warm);
        run("objects", i -> new Palettehouse(), 16);
        Palettehouse edited = filled();
        run("edits", i -> {
            if (edited.states() < 60) {
                edited.stroke(0, 0, 255, 4, 1, i % 256, 128);
            }
        }, 512);
        Palettehouse likes = filled();
        run("selections", i -> {
            if (likes.states() < 60) {
                likes.selectLike(0, 0, 255, true);
            }
        }, 512);
        Palettehouse looked = filled();
        run("palettes", i -> {
            looked.go(2 + i % (looked.states() - 2));
            looked.palette(8, 7);
            looked.mean();
            looked.isConsistent();
        }, 512);
        Palettehouse tiles = filled();
        tiles.setKept(1);
        run("tiles", i -> tiles.value(i % 16, i / 16 % 16), 512);
        Check.end();
    }

    private static Palettehouse filled() {
        Palettehouse house = new Palettehouse();
        for (int i = 0; i < 8; i++) {
            house.addLayer('p', -1);
            house.fill(i, 20 * i, 16, 16, 30 * i, 255);
        }
        return house;
    }

    private static void run(String what, IntConsumer call, int calls) {
        var threads = (com.sun.management.ThreadMXBean) ManagementFactory.getThreadMXBean();
        call.accept(0);
        long before = threads.getCurrentThreadAllocatedBytes();
        for (int i = 0; i < calls; i++) {
            call.accept(i);
        }
        long bytes = threads.getCurrentThreadAllocatedBytes() - before;
        System.out.println("        " + what + ": " + bytes + " bytes");
        Check.isTrue(what + " made " + bytes + " bytes", bytes < MOST_BYTES);
    }
}
