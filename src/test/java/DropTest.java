/** Promise 9: drop. */
public final class DropTest {
    public static void main(String[] args) {
        Check check = new Check("promise 9");
        FramePool pool = new FramePool(3, 5, 2);
        check.due("drop(0) in no frame", pool.drop(0), false);
        pool.fetch(0);
        pool.fetch(1);
        pool.writeWord(0, 0, 3);
        pool.flush(0);
        pool.writeWord(0, 0, 4);
        check.due("drop(0) with a pin", pool.drop(0), false);
        check.frame(pool, 0, 0, 1, 1, 1);
        check.due("readWord(0, 0)", pool.readWord(0, 0), 4);
        pool.unpin(0);
        check.due("drop(0)", pool.drop(0), true);
        check.empty(pool, 0);
        check.frame(pool, 1, 1, 1, 0, 1);
        check.due("diskWord(0, 0)", pool.diskWord(0, 0), 3);
        check.due("resident(0)", pool.resident(0), false);
        check.due("hand()", pool.hand(), 2);
        check.counts(pool, 2, 1);
        check.due("drop(0) again", pool.drop(0), false);
        check.due("flushAll()", pool.flushAll(), 0);
        check.due("drop(5)", pool.drop(5), false);
        for (int page : Check.FAR_OFF) {
            check.due("drop(" + page + ")", pool.drop(page), false);
        }
        // What was thrown away is not seen again.
        check.due("fetch(0)", pool.fetch(0), 2);
        check.due("readWord(2, 0)", pool.readWord(2, 0), 3);
        pool.unpin(1);
        check.due("drop(1), not dirty", pool.drop(1), true);
        check.empty(pool, 1);
        check.end();
    }
}
