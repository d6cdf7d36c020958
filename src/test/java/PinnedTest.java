/** Promise 17: pinned. */
public final class PinnedTest {
    public static void main(String[] args) {
        Check check = new Check("promise 17");
        FramePool pool = new FramePool(3, 9, 2);
        check.due("pinned() at first", pool.pinned(), 0);
        pool.fetch(0);
        check.due("pinned()", pool.pinned(), 1);
        pool.fetch(0);
        check.due("pinned(), frames and not pins", pool.pinned(), 1);
        pool.fetch(1);
        pool.fetch(2);
        check.due("pinned()", pool.pinned(), 3);
        pool.fetch(3);
        pool.fetch(9);
        check.due("pinned()", pool.pinned(), 3);
        pool.unpin(0);
        check.due("pinned(), one pin left", pool.pinned(), 3);
        pool.unpin(0);
        check.due("pinned()", pool.pinned(), 2);
        pool.unpin(0);
        pool.unpin(3);
        check.due("pinned()", pool.pinned(), 2);
        pool.fetch(3);
        check.due("pinned()", pool.pinned(), 3);
        pool.unpin(2);
        pool.drop(2);
        check.due("pinned(), last frame empty", pool.pinned(), 2);
        pool.init();
        check.due("pinned() after init", pool.pinned(), 0);
        check.end();
    }
}
