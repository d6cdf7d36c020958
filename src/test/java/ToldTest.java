/** Promise 15: told. */
public final class ToldTest {
    private static final Check CHECK = new Check("promise 15");

    public static void main(String[] args) {
        itsPage();
        emptyOne();
        itsPins();
        ifItIsDirty();
        ifItHasAMark();
        noSuchFrame();
        others();
        neither();
        CHECK.end();
    }

    private static void itsPage() {
        CHECK.sentence("what = 0 its page");
        FramePool pool = new FramePool(32, 200, 1);
        for (int f = 0; f < 32; f++) {
            pool.fetch(f == 0 ? 0 : 200 - f);
        }
        for (int f = 0; f < 32; f++) {
            CHECK.due("told(" + f + ", 0)", pool.told(f, 0), f == 0 ? 0 : 200 - f);
        }
    }

    private static void emptyOne() {
        CHECK.sentence("-1 when it is empty");
        FramePool pool = new FramePool(32, 200, 1);
        for (int f = 0; f < 32; f++) {
            CHECK.due("told(" + f + ", 0)", pool.told(f, 0), -1);
            CHECK.due("told(" + f + ", 1)", pool.told(f, 1), 0);
            CHECK.due("told(" + f + ", 2)", pool.told(f, 2), 0);
            CHECK.due("told(" + f + ", 3)", pool.told(f, 3), 0);
        }
        pool.fetch(0);
        CHECK.due("told(0, 0)", pool.told(0, 0), 0);
        pool.unpin(0);
        pool.drop(0);
        CHECK.empty(pool, 0);
    }

    private static void itsPins() {
        CHECK.sentence("1 its pins");
        FramePool pool = new FramePool(2, 9, 1);
        for (int pins = 1; pins <= 50; pins++) {
            pool.fetch(8);
            CHECK.due("told(0, 1)", pool.told(0, 1), pins);
        }
        CHECK.due("told(1, 1)", pool.told(1, 1), 0);
        for (int pins = 49; pins >= 0; pins--) {
            pool.unpin(0);
            CHECK.due("told(0, 1)", pool.told(0, 1), pins);
        }
    }

    private static void ifItIsDirty() {
        CHECK.sentence("2 1 if it is dirty (otherwise 0)");
        FramePool pool = new FramePool(2, 9, 1);
        pool.fetch(8);
        pool.fetch(3);
        CHECK.due("told(0, 2), as read", pool.told(0, 2), 0);
        pool.writeWord(0, 0, 1);
        pool.writeWord(0, 0, 2);
        CHECK.due("told(0, 2), written twice", pool.told(0, 2), 1);
        CHECK.due("told(1, 2)", pool.told(1, 2), 0);
        pool.flush(8);
        CHECK.due("told(0, 2), flushed", pool.told(0, 2), 0);
        pool.copy(3, 8);
        CHECK.due("told(1, 2), copied into", pool.told(1, 2), 1);
    }

    private static void ifItHasAMark() {
        CHECK.sentence("3 1 if it has a mark (otherwise 0)");
        FramePool pool = new FramePool(3, 9, 2);
        pool.fetch(8);
        pool.fetch(0);
        pool.unpin(1);
        pool.fetch(3);
        // The hand stood at the empty frame 2 and found it at once, so frame 1 keeps its mark.
        CHECK.frame(pool, 1, 0, 0, 0, 1);
        CHECK.frame(pool, 2, 3, 1, 0, 1);
        pool.unpin(2);
        pool.fetch(4);
        CHECK.frame(pool, 1, 4, 1, 0, 1);
        CHECK.frame(pool, 2, 3, 0, 0, 0);
        pool.fetch(3);
        pool.fetch(3);
        CHECK.due("told(2, 3), wanted twice", pool.told(2, 3), 1);
    }

    private static void noSuchFrame() {
        CHECK.sentence("-5 when there is none such");
        for (int frames : new int[] {1, 2, 31, 32}) {
            FramePool pool = new FramePool(frames, 9, 1);
            for (int what = 0; what < 4; what++) {
                CHECK.due("told(" + frames + ", " + what + ")", pool.told(frames, what), -5);
                for (int f : Check.FAR_OFF) {
                    CHECK.due("told(" + f + ", " + what + ")", pool.told(f, what), -5);
                }
            }
            CHECK.due("told(last, 0)", pool.told(frames - 1, 0), -1);
        }
    }

    private static void others() {
        CHECK.sentence("or for others");
        FramePool pool = new FramePool(2, 9, 1);
        pool.fetch(7);
        for (int f = 0; f < 2; f++) {
            CHECK.due("told(" + f + ", 4)", pool.told(f, 4), -5);
            CHECK.due("told(" + f + ", 5)", pool.told(f, 5), -5);
            for (int what : Check.FAR_OFF) {
                CHECK.due("told(" + f + ", " + what + ")", pool.told(f, what), -5);
            }
        }
        CHECK.frame(pool, 0, 7, 1, 0, 1);
    }

    private static void neither() {
        CHECK.sentence("-5 when there is none such, or for others");
        FramePool pool = new FramePool(2, 9, 1);
        CHECK.due("told(2, 4)", pool.told(2, 4), -5);
        for (int far : Check.FAR_OFF) {
            CHECK.due("told(" + far + ", " + far + ")", pool.told(far, far), -5);
        }
    }
}
