import java.lang.management.ManagementFactory;
import java.util.function.LongSupplier;

/** How much room an object and its calls take: what a run makes stays in one room. */
public final class RoomTest {
    private static final int TIMES = 400, MOST_OF_A_CALL = 120, MOST_OF_AN_OBJECT = 4096;

    private final Check check = new Check();
    private final com.sun.management.ThreadMXBean threads =
            (com.sun.management.ThreadMXBean) ManagementFactory.getThreadMXBean();
    private final PicturePapers x = new PicturePapers();
    private long kept;

    public static void main(String[] args) {
        RoomTest test = new RoomTest();
        test.prepare();
        test.calls();
        test.object();
        test.check.finish();
    }

    private void prepare() {
        x.sheet(0, 0, 60);
        for (int i = 0; i < 60; i++) {
            x.put(0, i, i);
        }
        for (int p = 0; p < 12; p++) {
            x.picture(4, 4, 0, 0, p);
        }
        x.sheet(1, 2, 9);
        String text = "t;t;t;t;t";
        for (int i = 0; i < 9; i++) {
            x.put(1, i, text.charAt(i));
        }
        x.lens(77);
        x.take(0, 0, 1);
        for (int p = 1; p < 12; p++) {
            x.change(p, p - 1, 0, 1, 1, 2, 0, 9);
        }
        for (int k = 0; k < 9; k++) {
            x.look(11, 3, k);
        }
        x.within(20);
    }

    private void calls() {
        measure("picture", () -> x.picture(4, 4, 0, 0, 0));
        measure("ofPicture", () -> x.ofPicture(3, 3));
        measure("alter", () -> x.alter(11, 0, 50));
        measure("tear and take", () -> x.tear(11) + x.take(11, 0, 5));
        measure("tear and hush", () -> x.tear(11) + x.hush(11, 10, 0, 5));
        measure("tear and change", () -> x.tear(11) + x.change(11, 10, 0, 5, 1, 2, 0, 9));
        measure("act", () -> x.act(3, 1, 2, 0, 9));
        measure("speaks", () -> x.speaks(11));
        measure("play", () -> x.play(11));
        measure("way", () -> x.way(11, -1));
        measure("doubt", () -> x.doubt(11));
        measure("whole", () -> x.whole(11));
        measure("proof", () -> x.proof(11, 5, 2));
        measure("proves", () -> x.proves(3, 5, 7, 0, 0, 4));
        measure("hide", () -> x.hide(2, 77) + x.hide(2, 11));
        measure("found", () -> x.found(2, 3));
        measure("falsely", () -> x.falsely(2, 3, 0));
        measure("like", () -> x.like(2, 3));
        measure("nearest", () -> x.nearest(2, 10));
        measure("best", () -> x.best(20, 0));
        measure("doubtful", () -> x.doubtful());
        measure("sheet", () -> x.sheet(2, 2, 60));
        measure("put", () -> x.put(2, 3, 3));
        measure("cell", () -> x.cell(2, 3, 2));
        measure("copy", () -> x.copy(2, 0, 2, 1, 59));
        measure("tell", () -> x.tell(11));
        measure("show", () -> x.show(11));
        measure("as", () -> x.as(11, 1));
        measure("many", () -> x.many(2));
    }

    private void measure(String name, LongSupplier call) {
        kept += call.getAsLong();
        long before = allocated();
        for (int k = 0; k < TIMES; k++) {
            kept += call.getAsLong();
        }
        long each = (allocated() - before) / TIMES;
        check.holds(each <= MOST_OF_A_CALL, name + " makes " + each + " bytes each time");
    }

    private void object() {
        kept += new PicturePapers().trace();
        long before = allocated();
        kept += new PicturePapers().trace();
        long each = allocated() - before;
        check.holds(each <= MOST_OF_AN_OBJECT, "an object makes " + each + " bytes");
    }

    private long allocated() {
        return threads.getThreadAllocatedBytes(Thread.currentThread().getId());
    }
}
