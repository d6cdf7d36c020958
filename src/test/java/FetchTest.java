/** Promise 3: fetch, for a page that a frame has, for one that none has, and for none such. */
public final class FetchTest {
    private static final Check CHECK = new Check("promise 3");

    public static void main(String[] args) {
        onePinMore();
        onePinMoreFromNone();
        andAMark();
        noneHasIt();
        readIntoIt();
        itsNumber();
        noFrameHasItAndAllHavePins();
        aFrameHasItAndAllHavePins();
        noFrameHasItAndNotAllHavePins();
        allHavePinsOfOneFrame();
        allHavePinsOf32Frames();
        morePinsThanOne();
        noSuchPage();
        noSuchPageWhenAllHavePins();
        CHECK.end();
    }

    private static void onePinMore() {
        CHECK.sentence("the frame that has it gets one pin more");
        FramePool pool = new FramePool(3, 5, 2);
        pool.fetch(2);
        pool.writeWord(0, 1, 8);
        CHECK.due("fetch(2) again", pool.fetch(2), 0);
        CHECK.frame(pool, 0, 2, 2, 1, 1);
        CHECK.due("readWord(0, 1)", pool.readWord(0, 1), 8);
        CHECK.due("hand()", pool.hand(), 1);
        for (int more = 3; more <= 40; more++) {
            CHECK.due("fetch(2) once more", pool.fetch(2), 0);
            CHECK.due("told(0, 1)", pool.told(0, 1), more);
        }
        CHECK.counts(pool, 1, 0);
        CHECK.empty(pool, 1);
        CHECK.empty(pool, 2);
    }

    private static void onePinMoreFromNone() {
        CHECK.sentence("the frame that has it gets one pin more (it had none)");
        FramePool pool = new FramePool(2, 5, 2);
        pool.fetch(2);
        pool.writeWord(0, 1, 8);
        pool.unpin(0);
        CHECK.due("fetch(2)", pool.fetch(2), 0);
        CHECK.frame(pool, 0, 2, 1, 1, 1);
        CHECK.due("readWord(0, 1)", pool.readWord(0, 1), 8);
        CHECK.counts(pool, 1, 0);
    }

    private static void andAMark() {
        CHECK.sentence("and a mark");
        FramePool pool = new FramePool(2, 5, 1);
        pool.fetch(0);
        pool.fetch(1);
        pool.unpin(0);
        pool.unpin(1);
        CHECK.due("fetch(2)", pool.fetch(2), 0);
        CHECK.frame(pool, 1, 1, 0, 0, 0);
        CHECK.due("fetch(1)", pool.fetch(1), 1);
        CHECK.frame(pool, 1, 1, 1, 0, 1);
    }

    private static void noneHasIt() {
        CHECK.sentence("if none has it, one is found .. with one pin and a mark, not dirty");
        FramePool pool = new FramePool(3, 5, 2);
        CHECK.due("fetch(4)", pool.fetch(4), 0);
        CHECK.frame(pool, 0, 4, 1, 0, 1);
        CHECK.empty(pool, 1);
        CHECK.counts(pool, 1, 0);
        CHECK.due("fetch(0)", pool.fetch(0), 1);
        CHECK.frame(pool, 1, 0, 1, 0, 1);
        CHECK.counts(pool, 2, 0);
        // A page that is gone is read anew.
        pool.unpin(0);
        pool.drop(4);
        CHECK.due("fetch(4)", pool.fetch(4), 2);
        CHECK.counts(pool, 3, 0);
    }

    private static void readIntoIt() {
        CHECK.sentence("the page is read into it (a READ)");
        FramePool pool = new FramePool(1, 3, 3);
        pool.fetch(1);
        for (int off = 0; off < 3; off++) {
            pool.writeWord(0, off, 100 + off);
        }
        pool.unpin(0);
        pool.fetch(2);
        for (int off = 0; off < 3; off++) {
            CHECK.due("readWord of page 2", pool.readWord(0, off), 0);
        }
        pool.unpin(0);
        pool.fetch(1);
        for (int off = 0; off < 3; off++) {
            CHECK.due("readWord of page 1", pool.readWord(0, off), 100 + off);
        }
        CHECK.frame(pool, 0, 1, 1, 0, 1);
        CHECK.counts(pool, 3, 1);
    }

    private static void itsNumber() {
        CHECK.sentence("Its number");
        FramePool pool = new FramePool(32, 200, 1);
        for (int f = 0; f < 32; f++) {
            CHECK.due("fetch(" + (199 - f) + ")", pool.fetch(199 - f), f);
        }
        for (int f = 31; f >= 0; f--) {
            CHECK.due("fetch(" + (199 - f) + ") again", pool.fetch(199 - f), f);
        }
    }

    private static void noFrameHasItAndAllHavePins() {
        CHECK.sentence("ALL_PINNED when no frame has it and all have pins");
        FramePool pool = new FramePool(2, 5, 1);
        pool.fetch(0);
        pool.fetch(1);
        CHECK.due("fetch(2)", pool.fetch(2), FramePool.ALL_PINNED);
        CHECK.due("fetch(4)", pool.fetch(4), FramePool.ALL_PINNED);
        CHECK.frame(pool, 0, 0, 1, 0, 1);
        CHECK.frame(pool, 1, 1, 1, 0, 1);
        CHECK.due("hand()", pool.hand(), 0);
        CHECK.counts(pool, 2, 0);
        CHECK.due("resident(2)", pool.resident(2), false);
    }

    private static void aFrameHasItAndAllHavePins() {
        CHECK.sentence("ALL_PINNED when no frame has it (a frame has it here)");
        FramePool pool = new FramePool(2, 5, 1);
        pool.fetch(0);
        pool.fetch(1);
        CHECK.due("fetch(1)", pool.fetch(1), 1);
        CHECK.due("fetch(0)", pool.fetch(0), 0);
        CHECK.frame(pool, 0, 0, 2, 0, 1);
        CHECK.frame(pool, 1, 1, 2, 0, 1);
    }

    private static void noFrameHasItAndNotAllHavePins() {
        CHECK.sentence("ALL_PINNED when .. all have pins (one has none here)");
        for (int f = 0; f < 3; f++) {
            FramePool pool = new FramePool(3, 5, 1);
            pool.fetch(0);
            pool.fetch(1);
            pool.fetch(2);
            pool.unpin(f);
            CHECK.due("fetch(4), frame " + f + " without pins", pool.fetch(4), f);
            CHECK.due("fetch(3)", pool.fetch(3), FramePool.ALL_PINNED);
        }
        // Full of pages is not full of pins.
        FramePool free = new FramePool(2, 5, 1);
        free.fetch(0);
        free.fetch(1);
        free.unpin(0);
        free.unpin(1);
        CHECK.due("fetch(2), none with pins", free.fetch(2), 0);
    }

    private static void allHavePinsOfOneFrame() {
        CHECK.sentence("ALL_PINNED when .. all have pins (one frame)");
        FramePool pool = new FramePool(1, 2, 1);
        CHECK.due("fetch(0)", pool.fetch(0), 0);
        CHECK.due("fetch(1)", pool.fetch(1), FramePool.ALL_PINNED);
        CHECK.due("fetch(0)", pool.fetch(0), 0);
        pool.unpin(0);
        pool.unpin(0);
        CHECK.due("fetch(1)", pool.fetch(1), 0);
        CHECK.due("hand()", pool.hand(), 0);
    }

    private static void allHavePinsOf32Frames() {
        CHECK.sentence("ALL_PINNED when .. all have pins (32 frames)");
        FramePool pool = new FramePool(32, 200, 1);
        for (int page = 0; page < 31; page++) {
            pool.fetch(page);
        }
        CHECK.due("fetch(31), one frame empty", pool.fetch(31), 31);
        CHECK.due("fetch(32), none empty", pool.fetch(32), FramePool.ALL_PINNED);
        CHECK.due("fetch(31)", pool.fetch(31), 31);
    }

    private static void morePinsThanOne() {
        CHECK.sentence("ALL_PINNED when .. all have pins (more than one)");
        FramePool pool = new FramePool(1, 2, 1);
        pool.fetch(0);
        pool.fetch(0);
        pool.unpin(0);
        CHECK.due("fetch(1), one pin left", pool.fetch(1), FramePool.ALL_PINNED);
        pool.unpin(0);
        CHECK.due("fetch(1), no pin left", pool.fetch(1), 0);
    }

    private static void noSuchPage() {
        CHECK.sentence("BAD_PAGE when there is none such");
        for (int pages : new int[] {1, 5, 199, 200}) {
            FramePool pool = new FramePool(2, pages, 1);
            CHECK.due("fetch(" + pages + ")", pool.fetch(pages), FramePool.BAD_PAGE);
            for (int page : Check.FAR_OFF) {
                CHECK.due("fetch(" + page + ")", pool.fetch(page), FramePool.BAD_PAGE);
            }
            CHECK.empty(pool, 0);
            CHECK.due("hand()", pool.hand(), 0);
            CHECK.counts(pool, 0, 0);
            CHECK.due("fetch(last)", pool.fetch(pages - 1), 0);
        }
    }

    private static void noSuchPageWhenAllHavePins() {
        CHECK.sentence("BAD_PAGE when there is none such (all have pins)");
        FramePool pool = new FramePool(1, 5, 1);
        pool.fetch(0);
        CHECK.due("fetch(5)", pool.fetch(5), FramePool.BAD_PAGE);
        CHECK.due("fetch(-1)", pool.fetch(-1), FramePool.BAD_PAGE);
        CHECK.frame(pool, 0, 0, 1, 0, 1);
    }
}
