/** Promise 16: hand. */
public final class HandTest {
    public static void main(String[] args) {
        Check check = new Check("promise 16");
        FramePool pool = new FramePool(3, 9, 2);
        check.due("hand() at first", pool.hand(), 0);
        pool.fetch(0);
        check.due("hand()", pool.hand(), 1);
        pool.fetch(0);
        pool.fetch(9);
        check.due("hand(), no frame was looked for", pool.hand(), 1);
        pool.fetch(1);
        check.due("hand()", pool.hand(), 2);
        pool.fetch(2);
        check.due("hand() behind the last one", pool.hand(), 0);
        pool.fetch(3);
        check.due("hand(), all pinned", pool.hand(), 0);
        pool.unpin(1);
        check.due("hand() after unpin", pool.hand(), 0);
        pool.fetch(3);
        check.due("hand(), frame 1 found", pool.hand(), 2);
        pool.fetch(4);
        check.due("hand(), all pinned, not at 0", pool.hand(), 2);
        pool.writeWord(1, 0, 1);
        pool.copy(3, 0);
        pool.flush(3);
        pool.flushAll();
        pool.unpin(1);
        pool.drop(3);
        check.due("hand() after all the rest", pool.hand(), 2);
        pool.init();
        check.due("hand() after init", pool.hand(), 0);
        check.end();
    }
}
