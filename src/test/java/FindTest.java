/** Terms, 'TO FIND a frame': which frame the hand finds, and what it leaves behind. */
public final class FindTest {
    private static final Check CHECK = new Check("to find a frame");

    public static void main(String[] args) {
        someFrameHasNoPins();
        emptyOnesHaveNone();
        theHandGoesOn();
        behindTheLastOneTheFirst();
        everyStandOfTheHand();
        withPinsItIsLeft();
        emptyItIsFound();
        emptyFrameIsNotSought();
        withAMarkTheMarkGoes();
        marksOfAllFramesGo();
        marksComeBack();
        otherwiseItIsFound();
        dirtyPageIsWritten();
        cleanPageIsNotWritten();
        itIsEmptyThen();
        CHECK.end();
    }

    /** All frames have a page with one pin and a mark, frame f the page f; the hand stands at 0. */
    private static FramePool filled(int frames) {
        FramePool pool = new FramePool(frames, 200, 2);
        for (int page = 0; page < frames; page++) {
            pool.fetch(page);
        }
        return pool;
    }

    /** All frames have a page, one pin and a mark, and the hand stands where it is wanted. */
    private static FramePool filledWithHandAt(int frames, int stand) {
        FramePool pool = filled(frames);
        int before = (stand + frames - 1) % frames;
        pool.unpin(before);
        CHECK.due("fetch(100)", pool.fetch(100), before);
        CHECK.due("hand()", pool.hand(), stand);
        return pool;
    }

    private static void someFrameHasNoPins() {
        CHECK.sentence("when some frame has no pins");
        FramePool pool = filled(3);
        CHECK.due("fetch(10), none without pins", pool.fetch(10), FramePool.ALL_PINNED);
        pool.unpin(1);
        CHECK.due("fetch(10), one without pins", pool.fetch(10), 1);
        CHECK.due("fetch(11), none without pins", pool.fetch(11), FramePool.ALL_PINNED);
    }

    private static void emptyOnesHaveNone() {
        CHECK.sentence("empty ones have none");
        for (int f = 0; f < 3; f++) {
            FramePool pool = filled(3);
            pool.unpin(f);
            pool.drop(f);
            CHECK.due("told(" + f + ", 1)", pool.told(f, 1), 0);
            CHECK.due("pinned()", pool.pinned(), 2);
            CHECK.due("fetch(10)", pool.fetch(10), f);
            CHECK.due("fetch(11)", pool.fetch(11), FramePool.ALL_PINNED);
        }
    }

    private static void theHandGoesOn() {
        CHECK.sentence("the hand's frame is looked at, and the hand goes on to the next one");
        FramePool pool = new FramePool(4, 9, 1);
        for (int f = 0; f < 3; f++) {
            CHECK.due("hand()", pool.hand(), f);
            CHECK.due("fetch(" + f + ")", pool.fetch(f), f);
            CHECK.due("hand()", pool.hand(), f + 1);
        }
    }

    private static void behindTheLastOneTheFirst() {
        CHECK.sentence("behind the last one the first");
        for (int frames = 1; frames <= 32; frames++) {
            FramePool pool = filled(frames);
            CHECK.due("hand(), the last one was empty", pool.hand(), 0);
            pool.unpin(frames - 1);
            CHECK.due("fetch(100)", pool.fetch(100), frames - 1);
            CHECK.due("hand(), the last one was found", pool.hand(), 0);
            pool.unpin(0);
            // Frame 0 has a mark: the hand goes once round, by the last frame, and finds it then.
            CHECK.due("fetch(101)", pool.fetch(101), 0);
            CHECK.due("hand(), the last one was left", pool.hand(), frames == 1 ? 0 : 1);
        }
    }

    private static void everyStandOfTheHand() {
        CHECK.sentence("the hand goes on to the next one (behind the last one the first)");
        for (int frames : new int[] {1, 2, 3, 7, 32}) {
            for (int stand = 0; stand < frames; stand++) {
                for (int free = 0; free < frames; free++) {
                    FramePool pool = filledWithHandAt(frames, stand);
                    pool.unpin(free);
                    CHECK.due("fetch(101), hand at " + stand + " of " + frames, pool.fetch(101), free);
                    CHECK.due("hand(), " + free + " of " + frames + " found", pool.hand(), (free + 1) % frames);
                }
            }
        }
    }

    private static void withPinsItIsLeft() {
        CHECK.sentence("with pins it is left");
        FramePool pool = filled(3);
        pool.fetch(0);
        pool.writeWord(0, 0, 5);
        pool.writeWord(1, 1, 6);
        pool.unpin(2);
        CHECK.due("fetch(10)", pool.fetch(10), 2);
        CHECK.due("hand()", pool.hand(), 0);
        CHECK.frame(pool, 0, 0, 2, 1, 1);
        CHECK.frame(pool, 1, 1, 1, 1, 1);
        CHECK.due("readWord(0, 0)", pool.readWord(0, 0), 5);
        CHECK.due("readWord(1, 1)", pool.readWord(1, 1), 6);
        CHECK.counts(pool, 4, 0);
    }

    private static void emptyItIsFound() {
        CHECK.sentence("empty, it is found");
        FramePool pool = filled(3);
        pool.writeWord(1, 0, 8);
        pool.unpin(0);
        pool.unpin(1);
        pool.drop(1);
        // Frame 0 comes first, and only its mark goes; what was dirty in frame 1 is not written.
        CHECK.due("fetch(10)", pool.fetch(10), 1);
        CHECK.frame(pool, 0, 0, 0, 0, 0);
        CHECK.frame(pool, 1, 10, 1, 0, 1);
        CHECK.due("hand()", pool.hand(), 2);
        CHECK.counts(pool, 4, 0);
        CHECK.due("fetch(11)", pool.fetch(11), 0);
        CHECK.due("hand()", pool.hand(), 1);
    }

    private static void emptyFrameIsNotSought() {
        CHECK.sentence("the hand's frame is looked at");
        FramePool pool = filled(3);
        pool.unpin(0);
        pool.unpin(1);
        pool.unpin(2);
        pool.fetch(10);
        pool.unpin(0);
        pool.drop(2);
        // Frame 1 has no mark and comes before the empty frame 2.
        CHECK.due("fetch(11)", pool.fetch(11), 1);
        CHECK.empty(pool, 2);
        CHECK.due("fetch(12)", pool.fetch(12), 2);
        CHECK.due("hand()", pool.hand(), 0);
    }

    private static void withAMarkTheMarkGoes() {
        CHECK.sentence("with a mark, the mark goes");
        FramePool pool = filled(3);
        pool.writeWord(0, 0, 5);
        pool.unpin(0);
        pool.unpin(1);
        pool.drop(1);
        CHECK.due("fetch(10)", pool.fetch(10), 1);
        // The mark alone goes: the page stays, is still dirty, and was not written.
        CHECK.frame(pool, 0, 0, 0, 1, 0);
        CHECK.due("diskWord(0, 0)", pool.diskWord(0, 0), 0);
        CHECK.counts(pool, 4, 0);
        CHECK.due("fetch(0)", pool.fetch(0), 0);
        CHECK.due("readWord(0, 0)", pool.readWord(0, 0), 5);
    }

    private static void marksOfAllFramesGo() {
        CHECK.sentence("with a mark, the mark goes (all frames, a whole round)");
        for (int frames : new int[] {1, 2, 3, 32}) {
            FramePool pool = filled(frames);
            for (int f = 0; f < frames; f++) {
                pool.unpin(f);
            }
            CHECK.due("fetch(100)", pool.fetch(100), 0);
            CHECK.due("hand()", pool.hand(), frames == 1 ? 0 : 1);
            CHECK.frame(pool, 0, 100, 1, 0, 1);
            for (int f = 1; f < frames; f++) {
                CHECK.frame(pool, f, f, 0, 0, 0);
            }
            CHECK.counts(pool, frames + 1, 0);
        }
    }

    private static void marksComeBack() {
        CHECK.sentence("with a mark, the mark goes (one that came back)");
        FramePool pool = filled(3);
        pool.unpin(0);
        pool.unpin(1);
        pool.unpin(2);
        pool.fetch(10);
        pool.fetch(1);
        pool.unpin(1);
        // Frame 1 has its mark again, so the hand takes that and finds frame 2.
        CHECK.due("fetch(11)", pool.fetch(11), 2);
        CHECK.frame(pool, 1, 1, 0, 0, 0);
        CHECK.due("hand()", pool.hand(), 0);
    }

    private static void otherwiseItIsFound() {
        CHECK.sentence("otherwise it is found");
        FramePool pool = filled(3);
        pool.unpin(0);
        pool.unpin(1);
        pool.unpin(2);
        CHECK.due("fetch(10)", pool.fetch(10), 0);
        // Neither pins nor marks now in frames 1 and 2: each is found at the first look.
        CHECK.due("fetch(11)", pool.fetch(11), 1);
        CHECK.frame(pool, 2, 2, 0, 0, 0);
        CHECK.due("hand()", pool.hand(), 2);
        CHECK.due("fetch(12)", pool.fetch(12), 2);
        CHECK.due("hand()", pool.hand(), 0);
    }

    private static void dirtyPageIsWritten() {
        CHECK.sentence("if it is dirty, its page is written to the disk (a WRITE)");
        FramePool pool = filled(2);
        pool.writeWord(0, 0, 5);
        pool.writeWord(0, 1, -6);
        pool.writeWord(1, 0, 7);
        pool.unpin(0);
        CHECK.due("fetch(10)", pool.fetch(10), 0);
        CHECK.frame(pool, 1, 1, 1, 1, 1);
        CHECK.due("diskWord(0, 0)", pool.diskWord(0, 0), 5);
        CHECK.due("diskWord(0, 1)", pool.diskWord(0, 1), -6);
        CHECK.due("diskWord(1, 0)", pool.diskWord(1, 0), 0);
        CHECK.due("diskWord(10, 0)", pool.diskWord(10, 0), 0);
        CHECK.counts(pool, 3, 1);
    }

    private static void cleanPageIsNotWritten() {
        CHECK.sentence("if it is dirty");
        FramePool pool = filled(2);
        pool.writeWord(0, 0, 5);
        pool.flush(0);
        pool.unpin(0);
        CHECK.due("fetch(10)", pool.fetch(10), 0);
        CHECK.counts(pool, 3, 1);
        pool.unpin(1);
        CHECK.due("fetch(11)", pool.fetch(11), 1);
        CHECK.counts(pool, 4, 1);
    }

    private static void itIsEmptyThen() {
        CHECK.sentence("it is empty then");
        FramePool pool = filled(1);
        pool.fetch(0);
        pool.writeWord(0, 0, 5);
        pool.unpin(0);
        pool.unpin(0);
        CHECK.due("fetch(10)", pool.fetch(10), 0);
        CHECK.due("resident(0)", pool.resident(0), false);
        // Nothing of page 0 is left in the frame: no dirt, no pins, no words.
        CHECK.frame(pool, 0, 10, 1, 0, 1);
        CHECK.due("readWord(0, 0)", pool.readWord(0, 0), 0);
    }
}
