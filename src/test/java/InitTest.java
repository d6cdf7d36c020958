/** Promise 2: init() takes a used object back to its beginning, with its sizes kept. */
public final class InitTest {
    private static final Check CHECK = new Check("promise 2");

    public static void main(String[] args) {
        allFramesAreEmpty();
        theHandStandsAtZero();
        nothingWasReadOrWritten();
        allWordsOfTheDiskAreZero();
        theSizesStay();
        nothingOfTheFramesComesBack();
        CHECK.end();
    }

    private static void allFramesAreEmpty() {
        CHECK.sentence("All frames are empty");
        for (int frames : new int[] {1, 2, 32}) {
            FramePool pool = new FramePool(frames, 40, 2);
            for (int f = 0; f < frames; f++) {
                pool.fetch(f);
                pool.fetch(f);
                pool.writeWord(f, 0, 5);
            }
            CHECK.due("pinned() before", pool.pinned(), frames);
            pool.init();
            for (int f = 0; f < frames; f++) {
                CHECK.empty(pool, f);
                CHECK.due("resident(" + f + ")", pool.resident(f), false);
            }
            CHECK.due("pinned()", pool.pinned(), 0);
            CHECK.due("flushAll()", pool.flushAll(), 0);
            CHECK.due("fetch(39)", pool.fetch(39), 0);
        }
    }

    private static void theHandStandsAtZero() {
        CHECK.sentence("the hand stands at 0");
        for (int stand = 0; stand < 3; stand++) {
            FramePool pool = new FramePool(3, 6, 2);
            for (int page = 0; page < stand; page++) {
                pool.fetch(page);
            }
            CHECK.due("hand() before", pool.hand(), stand);
            pool.init();
            CHECK.due("hand()", pool.hand(), 0);
        }
    }

    private static void nothingWasReadOrWritten() {
        CHECK.sentence("nothing was read or written");
        FramePool pool = new FramePool(2, 6, 2);
        pool.fetch(0);
        pool.writeWord(0, 0, 1);
        pool.flush(0);
        CHECK.counts(pool, 1, 1);
        pool.writeWord(0, 0, 2);
        pool.init();
        // A dirty page is not written when its frame becomes empty in this way.
        CHECK.counts(pool, 0, 0);
        CHECK.due("diskWord(0, 0)", pool.diskWord(0, 0), 0);
        pool.fetch(0);
        CHECK.counts(pool, 1, 0);
    }

    private static void allWordsOfTheDiskAreZero() {
        CHECK.sentence("all words of the disk are 0");
        // Four parts: all of a disk of 200 pages would take more than 512 calls.
        for (int first = 0; first < 200; first += 50) {
            FramePool pool = new FramePool(1, 200, 8);
            for (int page = first; page < first + 50; page++) {
                pool.fetch(page);
                pool.writeWord(0, 0, page + 1);
                pool.writeWord(0, 7, -1);
                pool.unpin(0);
            }
            pool.flushAll();
            CHECK.due("diskWord(first, 0) before", pool.diskWord(first, 0), first + 1);
            CHECK.due("diskWord(last, 7) before", pool.diskWord(first + 49, 7), -1);
            pool.init();
            for (int page = first; page < first + 50; page++) {
                CHECK.due("diskWord(" + page + ", 0)", pool.diskWord(page, 0), 0);
                CHECK.due("diskWord(" + page + ", 7)", pool.diskWord(page, 7), 0);
            }
        }
    }

    private static void theSizesStay() {
        CHECK.sentence("void init()");
        FramePool pool = new FramePool(3, 6, 2);
        use(pool);
        pool.init();
        State.same(CHECK, "a used object after init()", pool, new FramePool(3, 6, 2), 3, 6, 2);
        FramePool twice = new FramePool(3, 6, 2);
        use(twice);
        twice.init();
        use(twice);
        twice.init();
        twice.init();
        CHECK.due("told(2, 0)", twice.told(2, 0), -1);
        CHECK.due("told(3, 0)", twice.told(3, 0), -5);
        CHECK.due("fetch(6)", twice.fetch(6), FramePool.BAD_PAGE);
        CHECK.due("fetch(5)", twice.fetch(5), 0);
        CHECK.due("writeWord(0, 2, 1)", twice.writeWord(0, 2, 1), FramePool.BAD_OFFSET);
        CHECK.due("writeWord(0, 1, 1)", twice.writeWord(0, 1, 1), 0);
    }

    private static void nothingOfTheFramesComesBack() {
        CHECK.sentence("All frames are empty .. all words of the disk are 0");
        FramePool pool = new FramePool(3, 6, 2);
        use(pool);
        pool.init();
        for (int page = 0; page < 3; page++) {
            CHECK.due("fetch(" + page + ")", pool.fetch(page), page);
            CHECK.due("readWord(" + page + ", 0)", pool.readWord(page, 0), 0);
            CHECK.due("readWord(" + page + ", 1)", pool.readWord(page, 1), 0);
        }
    }

    private static void use(FramePool pool) {
        for (int page = 0; page < 6; page++) {
            int f = pool.fetch(page);
            pool.writeWord(f, 0, page + 1);
            pool.writeWord(f, 1, page + 10);
            if (page != 4) {
                pool.unpin(f);
            }
        }
        pool.flush(5);
        pool.fetch(0);
        pool.writeWord(pool.fetch(1), 0, 77);
    }
}
