/** Promise 2: init() takes a used object back to its beginning, with its sizes kept. */
public final class InitTest {
    private static final Check CHECK = new Check("promise 2");

    public static void main(String[] args) {
        FramePool pool = new FramePool(3, 6, 2);
        use(pool);
        CHECK.due("diskWord(0, 1) before", pool.diskWord(0, 1), 10);
        pool.init();
        isNew(pool);
        use(pool);
        pool.init();
        pool.init();
        isNew(pool);
        // What a frame held before must not come back with a page that is read.
        CHECK.due("fetch(5)", pool.fetch(5), 0);
        CHECK.due("readWord(0, 0)", pool.readWord(0, 0), 0);
        CHECK.due("readWord(0, 1)", pool.readWord(0, 1), 0);
        CHECK.end();
    }

    private static void use(FramePool pool) {
        for (int page = 0; page < 6; page++) {
            int f = pool.fetch(page);
            pool.writeWord(f, 0, page + 1);
            pool.writeWord(f, 1, page + 10);
            if (page != 4) {
                pool.unpin(f);
            }
        }
        pool.flush(5);
        pool.fetch(0);
        pool.writeWord(pool.fetch(1), 0, 77);
    }

    private static void isNew(FramePool pool) {
        for (int f = 0; f < 3; f++) {
            CHECK.empty(pool, f);
        }
        CHECK.due("told(3, 0)", pool.told(3, 0), -5);
        CHECK.due("hand()", pool.hand(), 0);
        CHECK.due("pinned()", pool.pinned(), 0);
        CHECK.counts(pool, 0, 0);
        for (int page = 0; page < 6; page++) {
            CHECK.due("resident(" + page + ")", pool.resident(page), false);
            CHECK.due("diskWord(" + page + ", 0)", pool.diskWord(page, 0), 0);
            CHECK.due("diskWord(" + page + ", 1)", pool.diskWord(page, 1), 0);
        }
        CHECK.due("fetch(6)", pool.fetch(6), FramePool.BAD_PAGE);
    }
}
