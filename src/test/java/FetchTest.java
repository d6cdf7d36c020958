/** Promise 3: fetch, for a page that a frame has, for one that none has, and for none such. */
public final class FetchTest {
    private static final Check CHECK = new Check("promise 3");

    public static void main(String[] args) {
        firstFetch();
        fetchAgain();
        markComesBack();
        allPinned();
        noSuchPage();
        wordsComeFromTheDisk();
        CHECK.end();
    }

    private static void firstFetch() {
        FramePool pool = new FramePool(3, 5, 2);
        CHECK.due("fetch(4)", pool.fetch(4), 0);
        CHECK.frame(pool, 0, 4, 1, 0, 1);
        CHECK.empty(pool, 1);
        CHECK.counts(pool, 1, 0);
        CHECK.due("fetch(0)", pool.fetch(0), 1);
        CHECK.frame(pool, 1, 0, 1, 0, 1);
        CHECK.counts(pool, 2, 0);
    }

    private static void fetchAgain() {
        FramePool pool = new FramePool(3, 5, 2);
        pool.fetch(2);
        pool.writeWord(0, 1, 8);
        CHECK.due("fetch(2) again", pool.fetch(2), 0);
        CHECK.frame(pool, 0, 2, 2, 1, 1);
        CHECK.due("readWord(0, 1)", pool.readWord(0, 1), 8);
        CHECK.due("hand()", pool.hand(), 1);
        CHECK.counts(pool, 1, 0);
        for (int more = 3; more <= 40; more++) {
            CHECK.due("fetch(2) once more", pool.fetch(2), 0);
            CHECK.due("told(0, 1)", pool.told(0, 1), more);
        }
        CHECK.counts(pool, 1, 0);
    }

    private static void markComesBack() {
        FramePool pool = new FramePool(2, 5, 1);
        pool.fetch(0);
        pool.fetch(1);
        pool.unpin(0);
        pool.unpin(1);
        CHECK.due("fetch(2)", pool.fetch(2), 0);
        CHECK.frame(pool, 1, 1, 0, 0, 0);
        CHECK.due("fetch(1)", pool.fetch(1), 1);
        CHECK.frame(pool, 1, 1, 1, 0, 1);
    }

    private static void allPinned() {
        FramePool pool = new FramePool(2, 5, 1);
        pool.fetch(0);
        pool.fetch(1);
        CHECK.due("fetch(2), all pinned", pool.fetch(2), FramePool.ALL_PINNED);
        CHECK.frame(pool, 0, 0, 1, 0, 1);
        CHECK.frame(pool, 1, 1, 1, 0, 1);
        CHECK.due("hand()", pool.hand(), 0);
        CHECK.counts(pool, 2, 0);
        CHECK.due("resident(2)", pool.resident(2), false);
        CHECK.due("fetch(1), all pinned, but there", pool.fetch(1), 1);
        CHECK.due("fetch(9), all pinned", pool.fetch(9), FramePool.BAD_PAGE);
        pool.unpin(0);
        CHECK.due("fetch(2), one without pins", pool.fetch(2), 0);
    }

    private static void noSuchPage() {
        FramePool pool = new FramePool(2, 5, 1);
        CHECK.due("fetch(5)", pool.fetch(5), FramePool.BAD_PAGE);
        for (int page : Check.FAR_OFF) {
            CHECK.due("fetch(" + page + ")", pool.fetch(page), FramePool.BAD_PAGE);
        }
        CHECK.empty(pool, 0);
        CHECK.due("hand()", pool.hand(), 0);
        CHECK.counts(pool, 0, 0);
    }

    private static void wordsComeFromTheDisk() {
        FramePool pool = new FramePool(1, 3, 3);
        pool.fetch(1);
        for (int off = 0; off < 3; off++) {
            pool.writeWord(0, off, 100 + off);
        }
        pool.unpin(0);
        pool.fetch(2);
        for (int off = 0; off < 3; off++) {
            CHECK.due("readWord of page 2", pool.readWord(0, off), 0);
        }
        pool.unpin(0);
        pool.fetch(1);
        for (int off = 0; off < 3; off++) {
            CHECK.due("readWord of page 1", pool.readWord(0, off), 100 + off);
        }
        CHECK.frame(pool, 0, 1, 1, 0, 1);
        CHECK.counts(pool, 3, 1);
    }
}
