/** Promise 4: unpin. */
public final class UnpinTest {
    public static void main(String[] args) {
        Check check = new Check("promise 4");
        FramePool pool = new FramePool(2, 5, 2);
        check.due("unpin(0) of an empty frame", pool.unpin(0), FramePool.NOT_PINNED);
        check.empty(pool, 0);
        pool.fetch(3);
        pool.fetch(3);
        pool.fetch(3);
        pool.writeWord(0, 0, 4);
        check.due("unpin(0)", pool.unpin(0), 2);
        check.due("unpin(0)", pool.unpin(0), 1);
        check.due("unpin(0)", pool.unpin(0), 0);
        // The page, what was written into it and the mark stay.
        check.frame(pool, 0, 3, 0, 1, 1);
        check.due("unpin(0) without pins", pool.unpin(0), FramePool.NOT_PINNED);
        check.frame(pool, 0, 3, 0, 1, 1);
        check.due("unpin(1)", pool.unpin(1), FramePool.NOT_PINNED);
        check.due("unpin(2)", pool.unpin(2), FramePool.NOT_PINNED);
        for (int f : Check.FAR_OFF) {
            check.due("unpin(" + f + ")", pool.unpin(f), FramePool.NOT_PINNED);
        }
        check.counts(pool, 1, 0);
        check.end();
    }
}
