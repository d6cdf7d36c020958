/** Promise 16: hand. */
public final class HandTest {
    private static final Check CHECK = new Check("promise 16");

    public static void main(String[] args) {
        atFirst();
        whereItStands();
        wrapsRound();
        oneFrame();
        staysWhenNoFrameIsFound();
        staysInAllOtherCalls();
        afterInit();
        CHECK.end();
    }

    private static void atFirst() {
        CHECK.sentence("Where the hand stands (0 at first)");
        CHECK.due("hand()", new FramePool(3, 9, 2).hand(), 0);
    }

    private static void whereItStands() {
        CHECK.sentence("Where the hand stands");
        FramePool pool = new FramePool(3, 9, 2);
        pool.fetch(0);
        CHECK.due("hand()", pool.hand(), 1);
        pool.fetch(1);
        CHECK.due("hand()", pool.hand(), 2);
        pool.fetch(2);
        pool.unpin(1);
        pool.fetch(3);
        CHECK.due("hand(), frame 1 found", pool.hand(), 2);
    }

    private static void wrapsRound() {
        CHECK.sentence("behind the last one the first");
        for (int frames = 1; frames <= 32; frames++) {
            FramePool pool = new FramePool(frames, 200, 1);
            for (int call = 1; call <= 3 * frames; call++) {
                int f = pool.fetch(call);
                pool.unpin(f);
                CHECK.due("hand() after " + call + " pages in " + frames + " frames", pool.hand(), call % frames);
            }
        }
    }

    private static void oneFrame() {
        CHECK.sentence("behind the last one the first (one frame alone)");
        FramePool pool = new FramePool(1, 9, 2);
        pool.fetch(0);
        CHECK.due("hand()", pool.hand(), 0);
        pool.fetch(1);
        CHECK.due("hand(), all pinned", pool.hand(), 0);
        pool.unpin(0);
        pool.fetch(1);
        CHECK.due("hand(), twice round", pool.hand(), 0);
    }

    private static void staysWhenNoFrameIsFound() {
        CHECK.sentence("TO FIND a frame, when some frame has no pins");
        FramePool pool = new FramePool(3, 9, 2);
        pool.fetch(0);
        pool.fetch(0);
        pool.fetch(9);
        pool.fetch(-1);
        CHECK.due("hand(), none was to be found", pool.hand(), 1);
        pool.fetch(1);
        pool.fetch(2);
        pool.fetch(3);
        CHECK.due("hand(), all pinned", pool.hand(), 0);
        pool.unpin(1);
        pool.fetch(3);
        pool.fetch(4);
        CHECK.due("hand(), all pinned, not at 0", pool.hand(), 2);
    }

    private static void staysInAllOtherCalls() {
        CHECK.sentence("Where the hand stands (after calls that find none)");
        FramePool pool = new FramePool(3, 9, 2);
        pool.fetch(0);
        pool.fetch(1);
        pool.writeWord(1, 0, 1);
        pool.copy(1, 0);
        pool.copy(1, 5);
        pool.flush(1);
        pool.writeWord(1, 0, 2);
        pool.flushAll();
        pool.unpin(1);
        pool.drop(1);
        pool.readWord(0, 0);
        pool.diskWord(0, 0);
        pool.resident(0);
        pool.told(0, 0);
        pool.pinned();
        CHECK.due("hand()", pool.hand(), 2);
        CHECK.due("hand() again", pool.hand(), 2);
    }

    private static void afterInit() {
        CHECK.sentence("the hand stands at 0");
        FramePool pool = new FramePool(3, 9, 2);
        pool.fetch(0);
        pool.fetch(1);
        pool.init();
        CHECK.due("hand()", pool.hand(), 0);
    }
}
