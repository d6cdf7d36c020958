/** Promise 12: resident. */
public final class ResidentTest {
    private static final Check CHECK = new Check("promise 12");

    public static void main(String[] args) {
        inAFrame();
        inNoFrame();
        withoutPins();
        noLongerInAFrame();
        noSuchPage();
        CHECK.end();
    }

    private static void inAFrame() {
        CHECK.sentence("Whether a page is in a frame");
        FramePool pool = new FramePool(32, 200, 1);
        for (int f = 0; f < 32; f++) {
            CHECK.due("resident(" + (199 - f) + ") before", pool.resident(199 - f), false);
            pool.fetch(199 - f);
            CHECK.due("resident(" + (199 - f) + ")", pool.resident(199 - f), true);
        }
        CHECK.due("resident(0)", pool.resident(0), false);
        CHECK.due("resident(167)", pool.resident(167), false);
        CHECK.counts(pool, 32, 0);
    }

    private static void inNoFrame() {
        CHECK.sentence("Whether a page is in a frame (all frames empty)");
        FramePool pool = new FramePool(2, 5, 2);
        for (int page = 0; page < 5; page++) {
            CHECK.due("resident(" + page + ")", pool.resident(page), false);
        }
    }

    private static void withoutPins() {
        CHECK.sentence("Whether a page is in a frame (without pins)");
        FramePool pool = new FramePool(2, 5, 2);
        pool.fetch(0);
        pool.unpin(0);
        CHECK.due("resident(0)", pool.resident(0), true);
        CHECK.frame(pool, 0, 0, 0, 0, 1);
    }

    private static void noLongerInAFrame() {
        CHECK.sentence("Whether a page is in a frame (no longer)");
        FramePool pool = new FramePool(2, 5, 2);
        pool.fetch(0);
        pool.fetch(4);
        pool.unpin(0);
        pool.fetch(1);
        CHECK.due("resident(0), it had to go", pool.resident(0), false);
        CHECK.due("resident(1)", pool.resident(1), true);
        CHECK.due("resident(4)", pool.resident(4), true);
        pool.unpin(1);
        pool.drop(4);
        CHECK.due("resident(4), dropped", pool.resident(4), false);
        pool.init();
        CHECK.due("resident(1), after init", pool.resident(1), false);
    }

    private static void noSuchPage() {
        CHECK.sentence("Whether a page is in a frame (no such page)");
        for (int pages : new int[] {1, 5, 200}) {
            FramePool pool = new FramePool(2, pages, 2);
            pool.fetch(pages - 1);
            // Frame 1 is empty, and an empty frame's page is told as -1.
            CHECK.due("resident(" + pages + ")", pool.resident(pages), false);
            for (int page : Check.FAR_OFF) {
                CHECK.due("resident(" + page + ")", pool.resident(page), false);
            }
            CHECK.due("resident(last)", pool.resident(pages - 1), true);
        }
    }
}
