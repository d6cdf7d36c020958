/** Promise 17: pinned. */
public final class PinnedTest {
    private static final Check CHECK = new Check("promise 17");

    public static void main(String[] args) {
        none();
        howMany();
        framesAndNotPins();
        all();
        refusedCallsDoNotCount();
        emptyFramesHaveNone();
        CHECK.end();
    }

    private static void none() {
        CHECK.sentence("How many frames have pins (none)");
        FramePool pool = new FramePool(3, 9, 2);
        CHECK.due("pinned(), all empty", pool.pinned(), 0);
        pool.fetch(0);
        pool.unpin(0);
        CHECK.due("pinned(), a page without pins", pool.pinned(), 0);
    }

    private static void howMany() {
        CHECK.sentence("How many frames have pins");
        FramePool pool = new FramePool(3, 9, 2);
        pool.fetch(0);
        CHECK.due("pinned()", pool.pinned(), 1);
        pool.fetch(1);
        pool.fetch(2);
        CHECK.due("pinned()", pool.pinned(), 3);
        pool.unpin(1);
        CHECK.due("pinned()", pool.pinned(), 2);
        pool.fetch(3);
        CHECK.due("pinned()", pool.pinned(), 3);
    }

    private static void framesAndNotPins() {
        CHECK.sentence("How many frames have pins (not how many pins there are)");
        FramePool pool = new FramePool(3, 9, 2);
        pool.fetch(0);
        pool.fetch(0);
        pool.fetch(0);
        CHECK.due("pinned(), three pins", pool.pinned(), 1);
        pool.unpin(0);
        pool.unpin(0);
        CHECK.due("pinned(), one pin", pool.pinned(), 1);
        pool.unpin(0);
        CHECK.due("pinned(), no pin", pool.pinned(), 0);
    }

    private static void all() {
        CHECK.sentence("How many frames have pins (all)");
        for (int frames : new int[] {1, 2, 32}) {
            FramePool pool = new FramePool(frames, 50, 1);
            for (int page = 0; page < frames; page++) {
                CHECK.due("pinned() of " + frames, pool.pinned(), page);
                pool.fetch(page);
            }
            CHECK.due("pinned() of " + frames, pool.pinned(), frames);
            pool.fetch(40);
            CHECK.due("pinned(), ALL_PINNED was answered", pool.pinned(), frames);
            pool.unpin(frames - 1);
            CHECK.due("pinned(), the last without", pool.pinned(), frames - 1);
        }
    }

    private static void refusedCallsDoNotCount() {
        CHECK.sentence("How many frames have pins (after refused calls)");
        FramePool pool = new FramePool(2, 9, 2);
        pool.fetch(0);
        pool.fetch(1);
        pool.fetch(9);
        pool.fetch(5);
        pool.unpin(2);
        pool.unpin(-1);
        pool.drop(0);
        CHECK.due("pinned()", pool.pinned(), 2);
        pool.unpin(0);
        pool.unpin(0);
        CHECK.due("pinned(), unpin refused", pool.pinned(), 1);
    }

    private static void emptyFramesHaveNone() {
        CHECK.sentence("empty ones have none");
        FramePool pool = new FramePool(2, 9, 2);
        pool.fetch(0);
        pool.fetch(1);
        pool.unpin(1);
        pool.drop(1);
        CHECK.due("pinned(), one dropped", pool.pinned(), 1);
        pool.init();
        CHECK.due("pinned(), after init", pool.pinned(), 0);
    }
}
