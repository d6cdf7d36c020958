/** Promise 6: writeWord. */
public final class WriteWordTest {
    private static final Check CHECK = new Check("promise 6");

    public static void main(String[] args) {
        aWordIsWritten();
        theSameWordMakesDirtyToo();
        noSuchWord();
        noSuchFrameWithPins();
        CHECK.end();
    }

    private static void aWordIsWritten() {
        FramePool pool = new FramePool(2, 5, 2);
        pool.fetch(4);
        pool.fetch(3);
        CHECK.due("writeWord(0, 1, -9)", pool.writeWord(0, 1, -9), 0);
        CHECK.frame(pool, 0, 4, 1, 1, 1);
        CHECK.frame(pool, 1, 3, 1, 0, 1);
        CHECK.due("readWord(0, 0)", pool.readWord(0, 0), 0);
        CHECK.due("readWord(0, 1)", pool.readWord(0, 1), -9);
        CHECK.due("readWord(1, 0)", pool.readWord(1, 0), 0);
        CHECK.due("readWord(1, 1)", pool.readWord(1, 1), 0);
        CHECK.due("diskWord(4, 1)", pool.diskWord(4, 1), 0);
        CHECK.counts(pool, 2, 0);
        CHECK.due("writeWord(0, 1, MAX)", pool.writeWord(0, 1, Integer.MAX_VALUE), 0);
        CHECK.due("readWord(0, 1)", pool.readWord(0, 1), Integer.MAX_VALUE);
        CHECK.due("writeWord(0, 0, MIN)", pool.writeWord(0, 0, Integer.MIN_VALUE), 0);
        CHECK.due("readWord(0, 0)", pool.readWord(0, 0), Integer.MIN_VALUE);
    }

    private static void theSameWordMakesDirtyToo() {
        FramePool pool = new FramePool(2, 5, 2);
        pool.fetch(0);
        CHECK.due("writeWord(0, 0, 0)", pool.writeWord(0, 0, 0), 0);
        CHECK.frame(pool, 0, 0, 1, 1, 1);
    }

    private static void noSuchWord() {
        FramePool pool = new FramePool(2, 5, 2);
        pool.fetch(0);
        pool.fetch(1);
        CHECK.due("writeWord(0, 2, 1)", pool.writeWord(0, 2, 1), FramePool.BAD_OFFSET);
        CHECK.due("writeWord(1, -1, 1)", pool.writeWord(1, -1, 1), FramePool.BAD_OFFSET);
        for (int off : Check.FAR_OFF) {
            CHECK.due("writeWord(0, " + off + ", 1)", pool.writeWord(0, off, 1), FramePool.BAD_OFFSET);
        }
        CHECK.frame(pool, 0, 0, 1, 0, 1);
        CHECK.frame(pool, 1, 1, 1, 0, 1);
        CHECK.due("readWord(0, 1)", pool.readWord(0, 1), 0);
        CHECK.due("readWord(1, 0)", pool.readWord(1, 0), 0);
    }

    private static void noSuchFrameWithPins() {
        FramePool pool = new FramePool(2, 5, 2);
        CHECK.due("writeWord(0, 0, 1) when empty", pool.writeWord(0, 0, 1), FramePool.NOT_PINNED);
        CHECK.empty(pool, 0);
        CHECK.due("writeWord(2, 0, 1)", pool.writeWord(2, 0, 1), FramePool.NOT_PINNED);
        for (int far : Check.FAR_OFF) {
            CHECK.due("writeWord(" + far + ", 0, 1)", pool.writeWord(far, 0, 1), FramePool.NOT_PINNED);
            CHECK.due("writeWord(" + far + ", " + far + ", 1)", pool.writeWord(far, far, 1), FramePool.NOT_PINNED);
        }
        pool.fetch(1);
        pool.unpin(0);
        CHECK.due("writeWord(0, 0, 1) without pins", pool.writeWord(0, 0, 1), FramePool.NOT_PINNED);
        CHECK.due("writeWord(0, 2, 1) without pins", pool.writeWord(0, 2, 1), FramePool.NOT_PINNED);
        CHECK.frame(pool, 0, 1, 0, 0, 1);
        pool.fetch(1);
        CHECK.due("readWord(0, 0)", pool.readWord(0, 0), 0);
    }
}
