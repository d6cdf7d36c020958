/** Promise 6: writeWord. */
public final class WriteWordTest {
    private static final Check CHECK = new Check("promise 6");

    public static void main(String[] args) {
        aWordBecomesW();
        anyWord();
        itIsDirty();
        noSuchFrame();
        noFrameWithPins();
        anEmptyFrame();
        noSuchWord();
        neitherFrameNorWord();
        CHECK.end();
    }

    private static void aWordBecomesW() {
        CHECK.sentence("A word of a frame's page becomes w");
        FramePool pool = new FramePool(2, 5, 2);
        pool.fetch(4);
        pool.fetch(3);
        CHECK.due("writeWord(0, 1, -9)", pool.writeWord(0, 1, -9), 0);
        CHECK.due("readWord(0, 0)", pool.readWord(0, 0), 0);
        CHECK.due("readWord(0, 1)", pool.readWord(0, 1), -9);
        CHECK.due("readWord(1, 0)", pool.readWord(1, 0), 0);
        CHECK.due("readWord(1, 1)", pool.readWord(1, 1), 0);
        CHECK.due("diskWord(4, 1)", pool.diskWord(4, 1), 0);
        CHECK.counts(pool, 2, 0);
        CHECK.due("hand()", pool.hand(), 0);
    }

    private static void anyWord() {
        CHECK.sentence("becomes w (the smallest and the largest)");
        FramePool pool = new FramePool(1, 1, 1);
        pool.fetch(0);
        for (int w : new int[] {Integer.MAX_VALUE, Integer.MIN_VALUE, -1, 1, 0}) {
            CHECK.due("writeWord(0, 0, " + w + ")", pool.writeWord(0, 0, w), 0);
            CHECK.due("readWord(0, 0)", pool.readWord(0, 0), w);
        }
    }

    private static void itIsDirty() {
        CHECK.sentence("and it is dirty");
        FramePool pool = new FramePool(2, 5, 2);
        pool.fetch(4);
        pool.fetch(3);
        // The word that it has already makes it dirty too.
        CHECK.due("writeWord(0, 0, 0)", pool.writeWord(0, 0, 0), 0);
        CHECK.frame(pool, 0, 4, 1, 1, 1);
        CHECK.frame(pool, 1, 3, 1, 0, 1);
        pool.flush(4);
        CHECK.due("writeWord(0, 1, 6)", pool.writeWord(0, 1, 6), 0);
        CHECK.frame(pool, 0, 4, 1, 1, 1);
        CHECK.due("writeWord(0, 1, 7) when dirty", pool.writeWord(0, 1, 7), 0);
        CHECK.frame(pool, 0, 4, 1, 1, 1);
    }

    private static void noSuchFrame() {
        CHECK.sentence("NOT_PINNED when there is no such frame");
        for (int frames : new int[] {1, 2, 32}) {
            FramePool pool = new FramePool(frames, 50, 2);
            for (int page = 0; page < frames; page++) {
                pool.fetch(page);
            }
            CHECK.due("writeWord(" + frames + ", 0, 1)", pool.writeWord(frames, 0, 1), FramePool.NOT_PINNED);
            for (int far : Check.FAR_OFF) {
                CHECK.due("writeWord(" + far + ", 0, 1)", pool.writeWord(far, 0, 1), FramePool.NOT_PINNED);
            }
            CHECK.due("flushAll()", pool.flushAll(), 0);
            CHECK.due("writeWord(last, 0, 1)", pool.writeWord(frames - 1, 0, 1), 0);
        }
    }

    private static void noFrameWithPins() {
        CHECK.sentence("NOT_PINNED when there is no such frame with pins");
        FramePool pool = new FramePool(2, 5, 2);
        pool.fetch(1);
        pool.fetch(1);
        pool.unpin(0);
        CHECK.due("writeWord(0, 0, 1), one pin left", pool.writeWord(0, 0, 1), 0);
        pool.flush(1);
        pool.unpin(0);
        CHECK.due("writeWord(0, 0, 2), no pin left", pool.writeWord(0, 0, 2), FramePool.NOT_PINNED);
        CHECK.frame(pool, 0, 1, 0, 0, 1);
        pool.fetch(1);
        CHECK.due("readWord(0, 0)", pool.readWord(0, 0), 1);
    }

    private static void anEmptyFrame() {
        CHECK.sentence("NOT_PINNED when there is no such frame with pins (an empty one)");
        FramePool pool = new FramePool(2, 5, 2);
        CHECK.due("writeWord(0, 0, 1)", pool.writeWord(0, 0, 1), FramePool.NOT_PINNED);
        CHECK.empty(pool, 0);
        pool.fetch(1);
        CHECK.due("readWord(0, 0)", pool.readWord(0, 0), 0);
        pool.unpin(0);
        pool.drop(1);
        CHECK.due("writeWord(0, 0, 1), dropped", pool.writeWord(0, 0, 1), FramePool.NOT_PINNED);
        CHECK.empty(pool, 0);
    }

    private static void noSuchWord() {
        CHECK.sentence("BAD_OFFSET when there is no such word");
        for (int words : new int[] {1, 2, 7, 8}) {
            FramePool pool = new FramePool(2, 5, words);
            pool.fetch(0);
            pool.fetch(1);
            CHECK.due("writeWord(0, " + words + ", 1)", pool.writeWord(0, words, 1), FramePool.BAD_OFFSET);
            CHECK.due("writeWord(1, -1, 1)", pool.writeWord(1, -1, 1), FramePool.BAD_OFFSET);
            for (int off : Check.FAR_OFF) {
                CHECK.due("writeWord(0, " + off + ", 1)", pool.writeWord(0, off, 1), FramePool.BAD_OFFSET);
            }
            CHECK.frame(pool, 0, 0, 1, 0, 1);
            CHECK.frame(pool, 1, 1, 1, 0, 1);
            // The word beside the edge is of the other frame.
            CHECK.due("readWord(0, last)", pool.readWord(0, words - 1), 0);
            CHECK.due("readWord(1, 0)", pool.readWord(1, 0), 0);
            CHECK.due("writeWord(0, last, 1)", pool.writeWord(0, words - 1, 1), 0);
        }
    }

    private static void neitherFrameNorWord() {
        CHECK.sentence("NOT_PINNED when there is no such frame with pins; BAD_OFFSET when there is no such word");
        FramePool pool = new FramePool(2, 5, 2);
        for (int far : Check.FAR_OFF) {
            CHECK.due("writeWord(" + far + ", " + far + ", 1)", pool.writeWord(far, far, 1), FramePool.NOT_PINNED);
        }
        CHECK.due("writeWord(0, 2, 1), empty", pool.writeWord(0, 2, 1), FramePool.NOT_PINNED);
        pool.fetch(1);
        pool.unpin(0);
        CHECK.due("writeWord(0, 2, 1), no pins", pool.writeWord(0, 2, 1), FramePool.NOT_PINNED);
    }
}
