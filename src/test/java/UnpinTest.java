/** Promise 4: unpin. */
public final class UnpinTest {
    private static final Check CHECK = new Check("promise 4");

    public static void main(String[] args) {
        onePinLess();
        howManyAreLeft();
        noneSuch();
        itHasNone();
        itHasNoneBecauseItIsEmpty();
        CHECK.end();
    }

    private static void onePinLess() {
        CHECK.sentence("A frame has one pin less");
        FramePool pool = new FramePool(2, 5, 2);
        pool.fetch(3);
        pool.fetch(3);
        pool.fetch(1);
        pool.writeWord(0, 0, 4);
        pool.unpin(0);
        // The page, what was written into it and the mark stay, and so does the other frame.
        CHECK.frame(pool, 0, 3, 1, 1, 1);
        CHECK.frame(pool, 1, 1, 1, 0, 1);
        pool.unpin(0);
        CHECK.frame(pool, 0, 3, 0, 1, 1);
        CHECK.due("resident(3)", pool.resident(3), true);
        CHECK.due("hand()", pool.hand(), 0);
        CHECK.counts(pool, 2, 0);
    }

    private static void howManyAreLeft() {
        CHECK.sentence("how many are left");
        FramePool pool = new FramePool(32, 50, 1);
        for (int page = 0; page < 32; page++) {
            pool.fetch(page);
        }
        for (int more = 0; more < 99; more++) {
            pool.fetch(31);
        }
        for (int left = 99; left >= 0; left--) {
            CHECK.due("unpin(31)", pool.unpin(31), left);
        }
        CHECK.due("unpin(0)", pool.unpin(0), 0);
    }

    private static void noneSuch() {
        CHECK.sentence("NOT_PINNED when there is none such");
        for (int frames : new int[] {1, 2, 31, 32}) {
            FramePool pool = new FramePool(frames, 50, 1);
            for (int page = 0; page < frames; page++) {
                pool.fetch(page);
            }
            CHECK.due("unpin(" + frames + ")", pool.unpin(frames), FramePool.NOT_PINNED);
            for (int f : Check.FAR_OFF) {
                CHECK.due("unpin(" + f + ")", pool.unpin(f), FramePool.NOT_PINNED);
            }
            CHECK.due("pinned()", pool.pinned(), frames);
            CHECK.due("unpin(last)", pool.unpin(frames - 1), 0);
        }
    }

    private static void itHasNone() {
        CHECK.sentence("or it has none");
        FramePool pool = new FramePool(2, 5, 2);
        pool.fetch(3);
        pool.unpin(0);
        CHECK.due("unpin(0)", pool.unpin(0), FramePool.NOT_PINNED);
        CHECK.due("unpin(0) again", pool.unpin(0), FramePool.NOT_PINNED);
        CHECK.frame(pool, 0, 3, 0, 0, 1);
        // The refused calls have not been kept for later.
        pool.fetch(3);
        CHECK.frame(pool, 0, 3, 1, 0, 1);
        CHECK.due("unpin(0) with a pin", pool.unpin(0), 0);
    }

    private static void itHasNoneBecauseItIsEmpty() {
        CHECK.sentence("or it has none (an empty one)");
        FramePool pool = new FramePool(2, 5, 2);
        CHECK.due("unpin(0), new", pool.unpin(0), FramePool.NOT_PINNED);
        CHECK.empty(pool, 0);
        pool.fetch(3);
        CHECK.due("unpin(1), new", pool.unpin(1), FramePool.NOT_PINNED);
        pool.unpin(0);
        pool.drop(3);
        CHECK.due("unpin(0), dropped", pool.unpin(0), FramePool.NOT_PINNED);
        CHECK.empty(pool, 0);
    }
}
