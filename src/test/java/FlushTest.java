/** Promise 7: flush. */
public final class FlushTest {
    public static void main(String[] args) {
        Check check = new Check("promise 7");
        FramePool pool = new FramePool(2, 5, 2);
        check.due("flush(0) in no frame", pool.flush(0), 0);
        pool.fetch(3);
        pool.fetch(1);
        check.due("flush(3), not dirty", pool.flush(3), 0);
        check.counts(pool, 2, 0);
        pool.writeWord(0, 0, 6);
        pool.writeWord(0, 1, 7);
        pool.writeWord(1, 0, 8);
        check.due("flush(3)", pool.flush(3), 1);
        check.frame(pool, 0, 3, 1, 0, 1);
        check.frame(pool, 1, 1, 1, 1, 1);
        check.due("diskWord(3, 0)", pool.diskWord(3, 0), 6);
        check.due("diskWord(3, 1)", pool.diskWord(3, 1), 7);
        check.due("diskWord(1, 0)", pool.diskWord(1, 0), 0);
        check.due("readWord(0, 1)", pool.readWord(0, 1), 7);
        check.counts(pool, 2, 1);
        check.due("flush(3) again", pool.flush(3), 0);
        check.counts(pool, 2, 1);
        pool.unpin(1);
        check.due("flush(1) without pins", pool.flush(1), 1);
        check.frame(pool, 1, 1, 0, 0, 1);
        check.due("diskWord(1, 0)", pool.diskWord(1, 0), 8);
        check.counts(pool, 2, 2);
        pool.writeWord(0, 0, 9);
        check.due("flush(3), dirty anew", pool.flush(3), 1);
        check.due("diskWord(3, 0)", pool.diskWord(3, 0), 9);
        pool.drop(1);
        check.due("flush(1), dropped", pool.flush(1), 0);
        check.due("flush(5)", pool.flush(5), 0);
        for (int page : Check.FAR_OFF) {
            check.due("flush(" + page + ")", pool.flush(page), 0);
        }
        check.due("hand()", pool.hand(), 0);
        check.counts(pool, 2, 3);
        check.end();
    }
}
