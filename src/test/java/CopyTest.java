/** Promise 10: copy. */
public final class CopyTest {
    private static final Check CHECK = new Check("promise 10");

    public static void main(String[] args) {
        inItsFrame();
        inItsFrameWithoutPins();
        orElseOnTheDisk();
        dirtyThen();
        fromItself();
        noSuchPage();
        noSuchPageToCopyFrom();
        noSuchPageComesFirst();
        inNoFrame();
        inNoFrameWithPins();
        theOtherNeedsNoPins();
        firstAndLast();
        CHECK.end();
    }

    private static void inItsFrame() {
        CHECK.sentence("A page gets the words of another one, as they are (in its frame");
        FramePool pool = new FramePool(3, 6, 3);
        pool.fetch(5);
        pool.fetch(2);
        for (int off = 0; off < 3; off++) {
            pool.writeWord(1, off, 20 + off);
        }
        CHECK.due("copy(5, 2)", pool.copy(5, 2), 0);
        words(pool, 0, 20, 21, 22);
        words(pool, 1, 20, 21, 22);
        CHECK.frame(pool, 1, 2, 1, 1, 1);
        CHECK.due("diskWord(5, 0)", pool.diskWord(5, 0), 0);
        CHECK.due("diskWord(2, 0)", pool.diskWord(2, 0), 0);
        CHECK.due("hand()", pool.hand(), 2);
        CHECK.counts(pool, 2, 0);
        // The words are copied, not shared.
        pool.writeWord(1, 0, 99);
        words(pool, 0, 20, 21, 22);
        pool.writeWord(0, 1, 98);
        words(pool, 1, 99, 21, 22);
    }

    private static void inItsFrameWithoutPins() {
        CHECK.sentence("in its frame (without pins, and other than on the disk)");
        FramePool pool = new FramePool(2, 6, 3);
        pool.fetch(0);
        pool.fetch(2);
        pool.writeWord(1, 0, 30);
        pool.flush(2);
        pool.writeWord(1, 0, 31);
        pool.unpin(1);
        pool.unpin(0);
        CHECK.due("fetch(5)", pool.fetch(5), 0);
        CHECK.frame(pool, 1, 2, 0, 1, 0);
        CHECK.due("copy(5, 2)", pool.copy(5, 2), 0);
        words(pool, 0, 31, 0, 0);
        // To be copied from is not to be wanted: no pin and no mark comes of it.
        CHECK.frame(pool, 1, 2, 0, 1, 0);
    }

    private static void orElseOnTheDisk() {
        CHECK.sentence("or else on the disk");
        FramePool pool = new FramePool(2, 6, 3);
        pool.fetch(4);
        for (int off = 0; off < 3; off++) {
            pool.writeWord(0, off, 40 + off);
        }
        pool.flush(4);
        pool.writeWord(0, 0, 77);
        pool.unpin(0);
        pool.drop(4);
        pool.fetch(1);
        CHECK.due("copy(1, 4)", pool.copy(1, 4), 0);
        words(pool, 1, 40, 41, 42);
        CHECK.empty(pool, 0);
        CHECK.due("resident(4)", pool.resident(4), false);
        CHECK.due("diskWord(4, 0)", pool.diskWord(4, 0), 40);
        CHECK.due("hand()", pool.hand(), 0);
        // Only fetch is said to be a READ.
        CHECK.counts(pool, 2, 1);
    }

    private static void dirtyThen() {
        CHECK.sentence("in the frame of its own, which is dirty then");
        FramePool pool = new FramePool(2, 6, 3);
        pool.fetch(1);
        // The words that it has already make it dirty too.
        CHECK.due("copy(1, 4)", pool.copy(1, 4), 0);
        CHECK.frame(pool, 0, 1, 1, 1, 1);
        pool.fetch(2);
        pool.writeWord(1, 2, 6);
        pool.flushAll();
        CHECK.due("copy(1, 2)", pool.copy(1, 2), 0);
        CHECK.frame(pool, 0, 1, 1, 1, 1);
        CHECK.frame(pool, 1, 2, 1, 0, 1);
        CHECK.due("diskWord(1, 2)", pool.diskWord(1, 2), 0);
        CHECK.due("flush(1)", pool.flush(1), 1);
        CHECK.due("diskWord(1, 2)", pool.diskWord(1, 2), 6);
    }

    private static void fromItself() {
        CHECK.sentence("A page gets the words of another one (itself)");
        FramePool pool = new FramePool(2, 6, 3);
        pool.fetch(3);
        pool.writeWord(0, 1, 8);
        pool.flush(3);
        CHECK.due("copy(3, 3)", pool.copy(3, 3), 0);
        words(pool, 0, 0, 8, 0);
        CHECK.frame(pool, 0, 3, 1, 1, 1);
    }

    private static void noSuchPage() {
        CHECK.sentence("BAD_PAGE when there is none such");
        FramePool pool = new FramePool(2, 6, 3);
        pool.fetch(0);
        CHECK.due("copy(6, 0)", pool.copy(6, 0), FramePool.BAD_PAGE);
        for (int far : Check.FAR_OFF) {
            CHECK.due("copy(" + far + ", 0)", pool.copy(far, 0), FramePool.BAD_PAGE);
            CHECK.due("copy(" + far + ", " + far + ")", pool.copy(far, far), FramePool.BAD_PAGE);
        }
        CHECK.frame(pool, 0, 0, 1, 0, 1);
        CHECK.empty(pool, 1);
    }

    private static void noSuchPageToCopyFrom() {
        CHECK.sentence("BAD_PAGE when there is none such (the other one)");
        FramePool pool = new FramePool(2, 6, 3);
        pool.fetch(0);
        CHECK.due("copy(0, 6)", pool.copy(0, 6), FramePool.BAD_PAGE);
        for (int far : Check.FAR_OFF) {
            CHECK.due("copy(0, " + far + ")", pool.copy(0, far), FramePool.BAD_PAGE);
        }
        CHECK.frame(pool, 0, 0, 1, 0, 1);
    }

    private static void noSuchPageComesFirst() {
        CHECK.sentence("BAD_PAGE when there is none such, NOT_PINNED when the page itself is in no frame with pins");
        FramePool pool = new FramePool(2, 6, 3);
        CHECK.due("copy(1, 6), 1 in no frame", pool.copy(1, 6), FramePool.BAD_PAGE);
        pool.fetch(1);
        pool.unpin(0);
        for (int far : Check.FAR_OFF) {
            CHECK.due("copy(1, " + far + "), 1 without pins", pool.copy(1, far), FramePool.BAD_PAGE);
        }
    }

    private static void inNoFrame() {
        CHECK.sentence("NOT_PINNED when the page itself is in no frame");
        FramePool pool = new FramePool(2, 6, 3);
        CHECK.due("copy(0, 1), all frames empty", pool.copy(0, 1), FramePool.NOT_PINNED);
        CHECK.due("copy(0, 0)", pool.copy(0, 0), FramePool.NOT_PINNED);
        CHECK.empty(pool, 0);
        pool.fetch(1);
        // The other one's pins do not count.
        CHECK.due("copy(0, 1), 1 with a pin", pool.copy(0, 1), FramePool.NOT_PINNED);
        CHECK.due("resident(0)", pool.resident(0), false);
        CHECK.counts(pool, 1, 0);
    }

    private static void inNoFrameWithPins() {
        CHECK.sentence("NOT_PINNED when the page itself is in no frame with pins");
        FramePool pool = new FramePool(2, 6, 3);
        pool.fetch(0);
        pool.fetch(1);
        pool.writeWord(1, 0, 5);
        pool.unpin(0);
        CHECK.due("copy(0, 1)", pool.copy(0, 1), FramePool.NOT_PINNED);
        CHECK.due("copy(0, 0)", pool.copy(0, 0), FramePool.NOT_PINNED);
        CHECK.frame(pool, 0, 0, 0, 0, 1);
        pool.fetch(0);
        words(pool, 0, 0, 0, 0);
        CHECK.due("copy(0, 1), a pin again", pool.copy(0, 1), 0);
        words(pool, 0, 5, 0, 0);
    }

    private static void theOtherNeedsNoPins() {
        CHECK.sentence("the page itself is in no frame with pins");
        FramePool pool = new FramePool(2, 6, 3);
        pool.fetch(0);
        CHECK.due("copy(0, 1), 1 in no frame", pool.copy(0, 1), 0);
        pool.fetch(1);
        pool.unpin(1);
        CHECK.due("copy(0, 1), 1 without pins", pool.copy(0, 1), 0);
        CHECK.frame(pool, 1, 1, 0, 0, 1);
    }

    private static void firstAndLast() {
        CHECK.sentence("copy(int page, int from) (the first and the last page)");
        FramePool pool = new FramePool(32, 200, 8);
        pool.fetch(0);
        pool.fetch(199);
        pool.writeWord(1, 0, 5);
        pool.writeWord(1, 7, 6);
        CHECK.due("copy(0, 199)", pool.copy(0, 199), 0);
        CHECK.due("readWord(0, 0)", pool.readWord(0, 0), 5);
        CHECK.due("readWord(0, 7)", pool.readWord(0, 7), 6);
        pool.writeWord(0, 7, 9);
        pool.flush(0);
        pool.unpin(0);
        pool.drop(0);
        CHECK.due("copy(199, 0)", pool.copy(199, 0), 0);
        CHECK.due("readWord(1, 0)", pool.readWord(1, 0), 5);
        CHECK.due("readWord(1, 7)", pool.readWord(1, 7), 9);
    }

    private static void words(FramePool pool, int f, int first, int second, int third) {
        CHECK.due("readWord(" + f + ", 0)", pool.readWord(f, 0), first);
        CHECK.due("readWord(" + f + ", 1)", pool.readWord(f, 1), second);
        CHECK.due("readWord(" + f + ", 2)", pool.readWord(f, 2), third);
    }
}
