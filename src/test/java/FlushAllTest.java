/** Promise 8: flushAll. */
public final class FlushAllTest {
    private static final Check CHECK = new Check("promise 8");

    public static void main(String[] args) {
        allDirtyPages();
        noneOfEmptyFrames();
        noneDirty();
        one();
        allOfThem();
        CHECK.end();
    }

    private static void allDirtyPages() {
        CHECK.sentence("All dirty pages are written");
        FramePool pool = new FramePool(4, 9, 2);
        for (int page = 5; page < 9; page++) {
            pool.fetch(page);
        }
        pool.writeWord(0, 1, 50);
        pool.writeWord(2, 0, 70);
        pool.writeWord(3, 1, 81);
        pool.unpin(2);
        CHECK.due("flushAll()", pool.flushAll(), 3);
        CHECK.frame(pool, 0, 5, 1, 0, 1);
        CHECK.frame(pool, 1, 6, 1, 0, 1);
        CHECK.frame(pool, 2, 7, 0, 0, 1);
        CHECK.frame(pool, 3, 8, 1, 0, 1);
        CHECK.due("diskWord(5, 1)", pool.diskWord(5, 1), 50);
        CHECK.due("diskWord(6, 0)", pool.diskWord(6, 0), 0);
        CHECK.due("diskWord(7, 0)", pool.diskWord(7, 0), 70);
        CHECK.due("diskWord(8, 1)", pool.diskWord(8, 1), 81);
        CHECK.due("hand()", pool.hand(), 0);
        CHECK.counts(pool, 4, 3);
    }

    private static void noneOfEmptyFrames() {
        CHECK.sentence("how many (none: all frames are empty)");
        FramePool pool = new FramePool(2, 9, 2);
        CHECK.due("flushAll(), new", pool.flushAll(), 0);
        pool.fetch(3);
        pool.writeWord(0, 0, 5);
        pool.unpin(0);
        pool.drop(3);
        CHECK.due("flushAll(), the dirty page dropped", pool.flushAll(), 0);
        CHECK.due("diskWord(3, 0)", pool.diskWord(3, 0), 0);
        CHECK.empty(pool, 0);
        CHECK.counts(pool, 1, 0);
    }

    private static void noneDirty() {
        CHECK.sentence("how many (none: no page is dirty)");
        FramePool pool = new FramePool(2, 9, 2);
        pool.fetch(3);
        pool.fetch(4);
        CHECK.due("flushAll()", pool.flushAll(), 0);
        pool.writeWord(0, 0, 5);
        pool.flush(3);
        CHECK.due("flushAll() after flush", pool.flushAll(), 0);
        CHECK.counts(pool, 2, 1);
    }

    private static void one() {
        CHECK.sentence("how many (one, written once)");
        FramePool pool = new FramePool(2, 9, 2);
        pool.fetch(3);
        pool.writeWord(0, 0, 5);
        pool.writeWord(0, 1, 6);
        pool.writeWord(0, 0, 7);
        CHECK.due("flushAll()", pool.flushAll(), 1);
        CHECK.counts(pool, 1, 1);
        CHECK.due("flushAll() again", pool.flushAll(), 0);
        CHECK.counts(pool, 1, 1);
    }

    private static void allOfThem() {
        CHECK.sentence("how many (all)");
        for (int frames : new int[] {1, 2, 32}) {
            FramePool pool = new FramePool(frames, 200, 8);
            for (int f = 0; f < frames; f++) {
                pool.fetch(199 - f);
                pool.writeWord(f, 7, f + 1);
            }
            CHECK.due("flushAll() of " + frames, pool.flushAll(), frames);
            for (int f = 0; f < frames; f++) {
                CHECK.due("diskWord(" + (199 - f) + ", 7)", pool.diskWord(199 - f, 7), f + 1);
                CHECK.due("told(" + f + ", 2)", pool.told(f, 2), 0);
            }
            CHECK.counts(pool, frames, frames);
        }
    }
}
