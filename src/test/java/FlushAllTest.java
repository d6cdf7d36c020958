/** Promise 8: flushAll. */
public final class FlushAllTest {
    public static void main(String[] args) {
        Check check = new Check("promise 8");
        FramePool pool = new FramePool(4, 9, 2);
        check.due("flushAll() of empty frames", pool.flushAll(), 0);
        for (int page = 5; page < 9; page++) {
            pool.fetch(page);
        }
        check.due("flushAll(), none dirty", pool.flushAll(), 0);
        check.counts(pool, 4, 0);
        pool.writeWord(0, 1, 50);
        pool.writeWord(2, 0, 70);
        pool.writeWord(3, 1, 81);
        pool.unpin(2);
        check.due("flushAll()", pool.flushAll(), 3);
        check.frame(pool, 0, 5, 1, 0, 1);
        check.frame(pool, 1, 6, 1, 0, 1);
        check.frame(pool, 2, 7, 0, 0, 1);
        check.frame(pool, 3, 8, 1, 0, 1);
        check.due("diskWord(5, 1)", pool.diskWord(5, 1), 50);
        check.due("diskWord(6, 0)", pool.diskWord(6, 0), 0);
        check.due("diskWord(7, 0)", pool.diskWord(7, 0), 70);
        check.due("diskWord(8, 1)", pool.diskWord(8, 1), 81);
        check.due("hand()", pool.hand(), 0);
        check.counts(pool, 4, 3);
        check.due("flushAll() again", pool.flushAll(), 0);
        check.counts(pool, 4, 3);
        allThirtyTwo(check);
        check.end();
    }

    private static void allThirtyTwo(Check check) {
        FramePool pool = new FramePool(32, 200, 8);
        for (int f = 0; f < 32; f++) {
            pool.fetch(199 - f);
            pool.writeWord(f, 7, f + 1);
        }
        check.due("flushAll() of 32", pool.flushAll(), 32);
        for (int f = 0; f < 32; f++) {
            check.due("diskWord(" + (199 - f) + ", 7)", pool.diskWord(199 - f, 7), f + 1);
        }
        check.counts(pool, 32, 32);
    }
}
