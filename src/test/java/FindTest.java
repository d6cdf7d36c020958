/** Terms, 'TO FIND a frame': which frame the hand finds, and what it leaves behind. */
public final class FindTest {
    private static final Check CHECK = new Check("to find a frame");

    public static void main(String[] args) {
        marksGoInTheFirstRound();
        pinnedFramesKeepTheirMarks();
        emptyFrameIsNotSought();
        emptyFrameBehindAMark();
        dirtyPageIsWritten();
        cleanPageIsNotWritten();
        oneFrame();
        allFramesMarked();
        CHECK.end();
    }

    private static FramePool filled(int frames) {
        FramePool pool = new FramePool(frames, 200, 2);
        for (int page = 0; page < frames; page++) {
            pool.fetch(page);
        }
        return pool;
    }

    private static void marksGoInTheFirstRound() {
        FramePool pool = filled(3);
        pool.unpin(0);
        pool.unpin(1);
        pool.unpin(2);
        CHECK.due("fetch(10)", pool.fetch(10), 0);
        CHECK.due("hand()", pool.hand(), 1);
        CHECK.frame(pool, 0, 10, 1, 0, 1);
        CHECK.frame(pool, 1, 1, 0, 0, 0);
        CHECK.frame(pool, 2, 2, 0, 0, 0);
        pool.fetch(1);
        pool.unpin(1);
        // Frame 1 has its mark again, so the hand takes that and finds frame 2.
        CHECK.due("fetch(11)", pool.fetch(11), 2);
        CHECK.frame(pool, 1, 1, 0, 0, 0);
        CHECK.due("hand()", pool.hand(), 0);
    }

    private static void pinnedFramesKeepTheirMarks() {
        FramePool pool = filled(3);
        pool.unpin(2);
        CHECK.due("fetch(10)", pool.fetch(10), 2);
        CHECK.due("hand()", pool.hand(), 0);
        CHECK.frame(pool, 0, 0, 1, 0, 1);
        CHECK.frame(pool, 1, 1, 1, 0, 1);
    }

    private static void emptyFrameIsNotSought() {
        FramePool pool = filled(3);
        pool.unpin(0);
        pool.unpin(1);
        pool.unpin(2);
        pool.fetch(10);
        pool.unpin(0);
        pool.drop(2);
        // Frame 1 has no mark and comes before the empty frame 2.
        CHECK.due("fetch(11)", pool.fetch(11), 1);
        CHECK.empty(pool, 2);
        CHECK.due("fetch(12)", pool.fetch(12), 2);
        CHECK.due("hand()", pool.hand(), 0);
    }

    private static void emptyFrameBehindAMark() {
        FramePool pool = filled(3);
        pool.unpin(0);
        pool.unpin(1);
        pool.drop(1);
        CHECK.due("fetch(10)", pool.fetch(10), 1);
        CHECK.frame(pool, 0, 0, 0, 0, 0);
        CHECK.due("hand()", pool.hand(), 2);
        CHECK.due("fetch(11)", pool.fetch(11), 0);
        CHECK.due("hand()", pool.hand(), 1);
    }

    private static void dirtyPageIsWritten() {
        FramePool pool = filled(2);
        pool.writeWord(0, 0, 5);
        pool.writeWord(0, 1, -6);
        pool.writeWord(1, 0, 7);
        pool.unpin(0);
        CHECK.due("fetch(10)", pool.fetch(10), 0);
        CHECK.frame(pool, 0, 10, 1, 0, 1);
        CHECK.frame(pool, 1, 1, 1, 1, 1);
        CHECK.due("diskWord(0, 0)", pool.diskWord(0, 0), 5);
        CHECK.due("diskWord(0, 1)", pool.diskWord(0, 1), -6);
        CHECK.due("diskWord(1, 0)", pool.diskWord(1, 0), 0);
        CHECK.due("resident(0)", pool.resident(0), false);
        CHECK.counts(pool, 3, 1);
    }

    private static void cleanPageIsNotWritten() {
        FramePool pool = filled(2);
        pool.writeWord(0, 0, 5);
        pool.flush(0);
        pool.unpin(0);
        CHECK.due("fetch(10)", pool.fetch(10), 0);
        CHECK.counts(pool, 3, 1);
    }

    private static void oneFrame() {
        FramePool pool = filled(1);
        CHECK.due("hand()", pool.hand(), 0);
        for (int page = 20; page < 30; page++) {
            CHECK.due("fetch(" + page + ")", pool.fetch(page), page == 20 ? FramePool.ALL_PINNED : 0);
            CHECK.due("hand()", pool.hand(), 0);
            pool.unpin(0);
        }
    }

    private static void allFramesMarked() {
        FramePool pool = filled(32);
        for (int f = 0; f < 32; f++) {
            pool.unpin(f);
        }
        CHECK.due("fetch(100)", pool.fetch(100), 0);
        CHECK.due("hand()", pool.hand(), 1);
        for (int f = 1; f < 32; f++) {
            CHECK.frame(pool, f, f, 0, 0, 0);
        }
        // The last frame alone has no pins, and its mark costs the hand a whole round.
        FramePool late = filled(32);
        late.unpin(31);
        CHECK.due("fetch(100)", late.fetch(100), 31);
        CHECK.due("hand()", late.hand(), 0);
        // The hand stands at 0 and frame 0 alone has no pins: the same from the other side.
        FramePool first = filled(32);
        first.unpin(0);
        CHECK.due("fetch(100)", first.fetch(100), 0);
        CHECK.due("hand()", first.hand(), 1);
    }
}
