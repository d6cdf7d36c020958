/** Promise 9: drop. */
public final class DropTest {
    private static final Check CHECK = new Check("promise 9");

    public static void main(String[] args) {
        emptyThen();
        everyFrame();
        writtenSinceItWasRead();
        writtenSinceItWasWrittenToTheDisk();
        notDirty();
        noFrameHasIt();
        itHasPins();
        noSuchPage();
        CHECK.end();
    }

    private static void emptyThen() {
        CHECK.sentence("The frame of a page without pins is empty then");
        FramePool pool = new FramePool(3, 5, 2);
        pool.fetch(0);
        pool.fetch(1);
        pool.writeWord(0, 0, 4);
        pool.unpin(0);
        CHECK.due("drop(0)", pool.drop(0), true);
        // No page, no dirt, no mark: and the other frame is as it was.
        CHECK.empty(pool, 0);
        CHECK.frame(pool, 1, 1, 1, 0, 1);
        CHECK.due("resident(0)", pool.resident(0), false);
        CHECK.due("hand()", pool.hand(), 2);
        CHECK.due("flushAll()", pool.flushAll(), 0);
    }

    private static void everyFrame() {
        CHECK.sentence("The frame of a page without pins is empty then (the first to the last)");
        FramePool pool = new FramePool(32, 200, 1);
        for (int f = 0; f < 32; f++) {
            pool.fetch(199 - f);
            pool.unpin(f);
        }
        for (int f = 31; f >= 0; f--) {
            CHECK.due("drop(" + (199 - f) + ")", pool.drop(199 - f), true);
            CHECK.due("told(" + f + ", 0)", pool.told(f, 0), -1);
        }
        FramePool first = new FramePool(1, 1, 1);
        first.fetch(0);
        first.unpin(0);
        CHECK.due("drop(0)", first.drop(0), true);
        CHECK.empty(first, 0);
    }

    private static void writtenSinceItWasRead() {
        CHECK.sentence("whatever was written into it since it was read");
        FramePool pool = new FramePool(1, 5, 2);
        pool.fetch(3);
        pool.writeWord(0, 0, 4);
        pool.unpin(0);
        CHECK.due("drop(3)", pool.drop(3), true);
        CHECK.due("diskWord(3, 0)", pool.diskWord(3, 0), 0);
        CHECK.counts(pool, 1, 0);
        pool.fetch(3);
        CHECK.due("readWord(0, 0)", pool.readWord(0, 0), 0);
        CHECK.counts(pool, 2, 0);
    }

    private static void writtenSinceItWasWrittenToTheDisk() {
        CHECK.sentence("or written to the disk");
        FramePool pool = new FramePool(1, 5, 2);
        pool.fetch(3);
        pool.writeWord(0, 0, 3);
        pool.flush(3);
        pool.writeWord(0, 0, 4);
        pool.unpin(0);
        CHECK.due("drop(3)", pool.drop(3), true);
        CHECK.due("diskWord(3, 0)", pool.diskWord(3, 0), 3);
        CHECK.counts(pool, 1, 1);
        pool.fetch(3);
        CHECK.due("readWord(0, 0)", pool.readWord(0, 0), 3);
    }

    private static void notDirty() {
        CHECK.sentence("whatever was written into it (nothing)");
        FramePool pool = new FramePool(2, 5, 2);
        pool.fetch(3);
        pool.unpin(0);
        CHECK.due("drop(3)", pool.drop(3), true);
        CHECK.empty(pool, 0);
        CHECK.counts(pool, 1, 0);
    }

    private static void noFrameHasIt() {
        CHECK.sentence("False when no frame has it");
        FramePool pool = new FramePool(2, 5, 2);
        CHECK.due("drop(0), all frames empty", pool.drop(0), false);
        pool.fetch(3);
        pool.unpin(0);
        CHECK.due("drop(0), another is there", pool.drop(0), false);
        CHECK.frame(pool, 0, 3, 0, 0, 1);
        CHECK.due("drop(3)", pool.drop(3), true);
        CHECK.due("drop(3) again", pool.drop(3), false);
    }

    private static void itHasPins() {
        CHECK.sentence("or it has pins");
        FramePool pool = new FramePool(2, 5, 2);
        pool.fetch(3);
        pool.fetch(3);
        pool.writeWord(0, 1, 4);
        CHECK.due("drop(3), two pins", pool.drop(3), false);
        pool.unpin(0);
        CHECK.due("drop(3), one pin", pool.drop(3), false);
        CHECK.frame(pool, 0, 3, 1, 1, 1);
        CHECK.due("readWord(0, 1)", pool.readWord(0, 1), 4);
        pool.unpin(0);
        CHECK.due("drop(3), no pins", pool.drop(3), true);
    }

    private static void noSuchPage() {
        CHECK.sentence("False when no frame has it (no such page)");
        for (int pages : new int[] {1, 5, 200}) {
            FramePool pool = new FramePool(2, pages, 2);
            pool.fetch(pages - 1);
            pool.unpin(0);
            // Frame 1 is empty, and an empty frame's page is told as -1.
            CHECK.due("drop(" + pages + ")", pool.drop(pages), false);
            for (int page : Check.FAR_OFF) {
                CHECK.due("drop(" + page + ")", pool.drop(page), false);
            }
            CHECK.frame(pool, 0, pages - 1, 0, 0, 1);
            CHECK.due("drop(last)", pool.drop(pages - 1), true);
        }
    }
}
