/** Promise 7: flush. */
public final class FlushTest {
    private static final Check CHECK = new Check("promise 7");

    public static void main(String[] args) {
        writtenToTheDisk();
        notDirtyThen();
        withoutPins();
        otherwiseInNoFrame();
        otherwiseNotDirty();
        otherwiseNoSuchPage();
        CHECK.end();
    }

    private static void writtenToTheDisk() {
        CHECK.sentence("A page that is in a frame, and dirty, is written to the disk (a WRITE)");
        FramePool pool = new FramePool(2, 5, 2);
        pool.fetch(3);
        pool.fetch(1);
        pool.writeWord(0, 0, 6);
        pool.writeWord(0, 1, 7);
        pool.writeWord(1, 0, 8);
        CHECK.due("flush(3)", pool.flush(3), 1);
        CHECK.due("diskWord(3, 0)", pool.diskWord(3, 0), 6);
        CHECK.due("diskWord(3, 1)", pool.diskWord(3, 1), 7);
        CHECK.due("diskWord(1, 0)", pool.diskWord(1, 0), 0);
        CHECK.due("readWord(0, 1)", pool.readWord(0, 1), 7);
        CHECK.frame(pool, 1, 1, 1, 1, 1);
        CHECK.due("hand()", pool.hand(), 0);
        CHECK.counts(pool, 2, 1);
        FramePool largest = new FramePool(32, 200, 8);
        largest.fetch(0);
        largest.fetch(199);
        largest.writeWord(0, 0, 1);
        largest.writeWord(1, 7, 2);
        CHECK.due("flush(199)", largest.flush(199), 1);
        CHECK.due("flush(0)", largest.flush(0), 1);
        CHECK.due("diskWord(0, 0)", largest.diskWord(0, 0), 1);
        CHECK.due("diskWord(199, 7)", largest.diskWord(199, 7), 2);
    }

    private static void notDirtyThen() {
        CHECK.sentence("and not dirty then");
        FramePool pool = new FramePool(2, 5, 2);
        pool.fetch(3);
        pool.writeWord(0, 0, 6);
        CHECK.due("flush(3)", pool.flush(3), 1);
        CHECK.frame(pool, 0, 3, 1, 0, 1);
        CHECK.due("flush(3) again", pool.flush(3), 0);
        CHECK.counts(pool, 1, 1);
        pool.writeWord(0, 0, 9);
        CHECK.due("flush(3), dirty anew", pool.flush(3), 1);
        CHECK.due("diskWord(3, 0)", pool.diskWord(3, 0), 9);
        CHECK.counts(pool, 1, 2);
    }

    private static void withoutPins() {
        CHECK.sentence("A page that is in a frame, and dirty (no pins, no mark)");
        FramePool pool = new FramePool(2, 5, 2);
        pool.fetch(3);
        pool.fetch(1);
        pool.writeWord(1, 0, 8);
        pool.unpin(0);
        pool.unpin(1);
        pool.fetch(2);
        CHECK.frame(pool, 1, 1, 0, 1, 0);
        CHECK.due("flush(1)", pool.flush(1), 1);
        CHECK.frame(pool, 1, 1, 0, 0, 0);
        CHECK.due("diskWord(1, 0)", pool.diskWord(1, 0), 8);
        CHECK.counts(pool, 3, 1);
    }

    private static void otherwiseInNoFrame() {
        CHECK.sentence("otherwise 0 (in no frame)");
        FramePool pool = new FramePool(2, 5, 2);
        CHECK.due("flush(0), all frames empty", pool.flush(0), 0);
        pool.fetch(3);
        pool.writeWord(0, 0, 6);
        CHECK.due("flush(0), another page is dirty", pool.flush(0), 0);
        CHECK.frame(pool, 0, 3, 1, 1, 1);
        pool.unpin(0);
        pool.drop(3);
        CHECK.due("flush(3), dropped", pool.flush(3), 0);
        CHECK.due("diskWord(3, 0)", pool.diskWord(3, 0), 0);
        CHECK.counts(pool, 1, 0);
    }

    private static void otherwiseNotDirty() {
        CHECK.sentence("otherwise 0 (not dirty)");
        FramePool pool = new FramePool(2, 5, 2);
        pool.fetch(3);
        CHECK.due("flush(3), as it was read", pool.flush(3), 0);
        CHECK.frame(pool, 0, 3, 1, 0, 1);
        pool.writeWord(0, 0, 1);
        pool.flushAll();
        CHECK.due("flush(3), written by flushAll", pool.flush(3), 0);
        CHECK.counts(pool, 1, 1);
    }

    private static void otherwiseNoSuchPage() {
        CHECK.sentence("otherwise 0 (no such page)");
        for (int pages : new int[] {1, 5, 200}) {
            FramePool pool = new FramePool(2, pages, 2);
            pool.fetch(pages - 1);
            pool.writeWord(0, 0, 6);
            // Frame 1 is empty, and an empty frame's page is told as -1.
            CHECK.due("flush(" + pages + ")", pool.flush(pages), 0);
            for (int page : Check.FAR_OFF) {
                CHECK.due("flush(" + page + ")", pool.flush(page), 0);
            }
            CHECK.frame(pool, 0, pages - 1, 1, 1, 1);
            CHECK.counts(pool, 1, 0);
            CHECK.due("flush(last)", pool.flush(pages - 1), 1);
        }
    }
}
