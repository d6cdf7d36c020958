/** Promise 10: copy. */
public final class CopyTest {
    private static final Check CHECK = new Check("promise 10");

    public static void main(String[] args) {
        fromAFrame();
        fromTheDisk();
        fromItself();
        notPinned();
        noSuchPage();
        CHECK.end();
    }

    private static void fromAFrame() {
        FramePool pool = new FramePool(3, 6, 3);
        pool.fetch(5);
        pool.fetch(2);
        for (int off = 0; off < 3; off++) {
            pool.writeWord(1, off, 20 + off);
        }
        CHECK.due("copy(5, 2)", pool.copy(5, 2), 0);
        words(pool, 0, 20, 21, 22);
        words(pool, 1, 20, 21, 22);
        CHECK.frame(pool, 0, 5, 1, 1, 1);
        CHECK.frame(pool, 1, 2, 1, 1, 1);
        CHECK.due("diskWord(5, 0)", pool.diskWord(5, 0), 0);
        CHECK.due("diskWord(2, 0)", pool.diskWord(2, 0), 0);
        CHECK.due("hand()", pool.hand(), 2);
        CHECK.counts(pool, 2, 0);
        // The words are copied, not shared.
        pool.writeWord(1, 0, 99);
        words(pool, 0, 20, 21, 22);
        // The other page needs no pins, and its frame comes before the disk.
        pool.flush(2);
        pool.writeWord(1, 1, 98);
        pool.unpin(1);
        CHECK.due("copy(5, 2), 2 without pins", pool.copy(5, 2), 0);
        words(pool, 0, 99, 98, 22);
        CHECK.frame(pool, 1, 2, 0, 1, 1);
    }

    private static void fromTheDisk() {
        FramePool pool = new FramePool(2, 6, 3);
        pool.fetch(4);
        for (int off = 0; off < 3; off++) {
            pool.writeWord(0, off, 40 + off);
        }
        pool.flush(4);
        pool.writeWord(0, 0, 77);
        pool.unpin(0);
        pool.drop(4);
        pool.fetch(1);
        CHECK.due("copy(1, 4)", pool.copy(1, 4), 0);
        words(pool, 1, 40, 41, 42);
        CHECK.frame(pool, 1, 1, 1, 1, 1);
        CHECK.empty(pool, 0);
        CHECK.due("resident(4)", pool.resident(4), false);
        CHECK.due("diskWord(1, 0)", pool.diskWord(1, 0), 0);
        CHECK.due("diskWord(4, 0)", pool.diskWord(4, 0), 40);
        CHECK.due("hand()", pool.hand(), 0);
        // Only fetch is said to be a READ.
        CHECK.counts(pool, 2, 1);
        CHECK.due("flush(1)", pool.flush(1), 1);
        CHECK.due("diskWord(1, 2)", pool.diskWord(1, 2), 42);
    }

    private static void fromItself() {
        FramePool pool = new FramePool(2, 6, 3);
        pool.fetch(3);
        pool.writeWord(0, 1, 8);
        pool.flush(3);
        CHECK.due("copy(3, 3)", pool.copy(3, 3), 0);
        words(pool, 0, 0, 8, 0);
        CHECK.frame(pool, 0, 3, 1, 1, 1);
    }

    private static void notPinned() {
        FramePool pool = new FramePool(2, 6, 3);
        CHECK.due("copy(0, 1) in no frame", pool.copy(0, 1), FramePool.NOT_PINNED);
        CHECK.due("copy(0, 0) in no frame", pool.copy(0, 0), FramePool.NOT_PINNED);
        pool.fetch(0);
        pool.fetch(1);
        pool.writeWord(1, 0, 5);
        pool.unpin(0);
        CHECK.due("copy(0, 1) without pins", pool.copy(0, 1), FramePool.NOT_PINNED);
        CHECK.frame(pool, 0, 0, 0, 0, 1);
        pool.fetch(0);
        words(pool, 0, 0, 0, 0);
        CHECK.due("copy(2, 1) in no frame", pool.copy(2, 1), FramePool.NOT_PINNED);
    }

    private static void noSuchPage() {
        FramePool pool = new FramePool(2, 6, 3);
        pool.fetch(0);
        CHECK.due("copy(0, 6)", pool.copy(0, 6), FramePool.BAD_PAGE);
        CHECK.due("copy(6, 0)", pool.copy(6, 0), FramePool.BAD_PAGE);
        CHECK.due("copy(1, 6), 1 in no frame", pool.copy(1, 6), FramePool.BAD_PAGE);
        for (int far : Check.FAR_OFF) {
            CHECK.due("copy(0, " + far + ")", pool.copy(0, far), FramePool.BAD_PAGE);
            CHECK.due("copy(" + far + ", 0)", pool.copy(far, 0), FramePool.BAD_PAGE);
            CHECK.due("copy(" + far + ", " + far + ")", pool.copy(far, far), FramePool.BAD_PAGE);
            CHECK.due("copy(1, " + far + ")", pool.copy(1, far), FramePool.BAD_PAGE);
        }
        CHECK.frame(pool, 0, 0, 1, 0, 1);
    }

    private static void words(FramePool pool, int f, int first, int second, int third) {
        CHECK.due("readWord(" + f + ", 0)", pool.readWord(f, 0), first);
        CHECK.due("readWord(" + f + ", 1)", pool.readWord(f, 1), second);
        CHECK.due("readWord(" + f + ", 2)", pool.readWord(f, 2), third);
    }
}
