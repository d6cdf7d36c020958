/** The example of README.md: its calls, with the answers that it names. */
public final class ExampleTest {
    private static final Check CHECK = new Check("the example of README.md");

    public static void main(String[] args) {
        FramePool pool = new FramePool(4, 100, 8);
        int f = pool.fetch(17);
        CHECK.due("fetch(17)", f, 0);
        CHECK.due("resident(17)", pool.resident(17), true);
        CHECK.frame(pool, f, 17, 1, 0, 1);
        CHECK.due("writeWord(f, 0, 42)", pool.writeWord(f, 0, 42), 0);
        CHECK.frame(pool, f, 17, 1, 1, 1);
        CHECK.due("readWord(f, 0)", pool.readWord(f, 0), 42);
        CHECK.due("diskWord(17, 0) before it is written", pool.diskWord(17, 0), 0);
        CHECK.due("unpin(f)", pool.unpin(f), 0);
        CHECK.due("flushAll()", pool.flushAll(), 1);
        CHECK.due("diskWord(17, 0)", pool.diskWord(17, 0), 42);
        CHECK.counts(pool, 1, 1);
        CHECK.end();
    }
}
