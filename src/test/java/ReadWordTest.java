/** Promise 5: readWord. */
public final class ReadWordTest {
    private static final Check CHECK = new Check("promise 5");

    public static void main(String[] args) {
        aWord();
        noSuchFrame();
        noFrameWithPins();
        anEmptyFrame();
        noSuchWord();
        CHECK.end();
    }

    /** Two frames of three words, none of them 0: frame 0 has page 1, frame 1 has page 2, both with a pin. */
    private static FramePool written() {
        FramePool pool = new FramePool(2, 5, 3);
        pool.fetch(1);
        pool.fetch(2);
        for (int off = 0; off < 3; off++) {
            pool.writeWord(0, off, 10 + off);
            pool.writeWord(1, off, Integer.MIN_VALUE + off);
        }
        return pool;
    }

    private static void aWord() {
        CHECK.sentence("A word of a frame's page");
        FramePool pool = written();
        for (int off = 0; off < 3; off++) {
            CHECK.due("readWord(0, " + off + ")", pool.readWord(0, off), 10 + off);
            CHECK.due("readWord(1, " + off + ")", pool.readWord(1, off), Integer.MIN_VALUE + off);
        }
        CHECK.frame(pool, 0, 1, 1, 1, 1);
        CHECK.counts(pool, 2, 0);
        FramePool largest = new FramePool(32, 200, 8);
        for (int f = 0; f < 32; f++) {
            largest.fetch(199 - f);
            largest.writeWord(f, 0, f + 1);
            largest.writeWord(f, 7, -f - 1);
        }
        for (int f = 0; f < 32; f++) {
            CHECK.due("readWord(" + f + ", 0)", largest.readWord(f, 0), f + 1);
            CHECK.due("readWord(" + f + ", 7)", largest.readWord(f, 7), -f - 1);
        }
    }

    private static void noSuchFrame() {
        CHECK.sentence("0 when there is no such frame");
        FramePool pool = written();
        CHECK.due("readWord(2, 0)", pool.readWord(2, 0), 0);
        // Neither may a wrong frame and a wrong word together point into the words that there are.
        CHECK.due("readWord(-1, 3)", pool.readWord(-1, 3), 0);
        CHECK.due("readWord(2, -1)", pool.readWord(2, -1), 0);
        for (int far : Check.FAR_OFF) {
            CHECK.due("readWord(" + far + ", 0)", pool.readWord(far, 0), 0);
            CHECK.due("readWord(" + far + ", " + far + ")", pool.readWord(far, far), 0);
        }
    }

    private static void noFrameWithPins() {
        CHECK.sentence("0 when there is no such frame with pins");
        FramePool pool = written();
        pool.fetch(1);
        pool.unpin(0);
        CHECK.due("readWord(0, 0), one pin left", pool.readWord(0, 0), 10);
        pool.unpin(0);
        CHECK.due("readWord(0, 0), no pin left", pool.readWord(0, 0), 0);
        CHECK.due("readWord(0, 2), no pin left", pool.readWord(0, 2), 0);
        CHECK.frame(pool, 0, 1, 0, 1, 1);
        pool.fetch(1);
        CHECK.due("readWord(0, 0), a pin again", pool.readWord(0, 0), 10);
    }

    private static void anEmptyFrame() {
        CHECK.sentence("0 when there is no such frame with pins (an empty one)");
        FramePool pool = written();
        pool.unpin(0);
        pool.drop(1);
        CHECK.due("readWord(0, 0), dropped", pool.readWord(0, 0), 0);
        pool.init();
        CHECK.due("readWord(1, 0), after init", pool.readWord(1, 0), 0);
    }

    private static void noSuchWord() {
        CHECK.sentence("or no such word");
        FramePool pool = written();
        for (int f = 0; f < 2; f++) {
            CHECK.due("readWord(" + f + ", 3)", pool.readWord(f, 3), 0);
            CHECK.due("readWord(" + f + ", 7)", pool.readWord(f, 7), 0);
            CHECK.due("readWord(" + f + ", 8)", pool.readWord(f, 8), 0);
            for (int off : Check.FAR_OFF) {
                CHECK.due("readWord(" + f + ", " + off + ")", pool.readWord(f, off), 0);
            }
        }
        CHECK.due("readWord(0, 2)", pool.readWord(0, 2), 12);
    }
}
