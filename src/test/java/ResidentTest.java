/** Promise 12: resident. */
public final class ResidentTest {
    public static void main(String[] args) {
        Check check = new Check("promise 12");
        FramePool pool = new FramePool(2, 5, 2);
        for (int page = 0; page < 5; page++) {
            check.due("resident(" + page + ")", pool.resident(page), false);
        }
        pool.fetch(0);
        pool.fetch(4);
        check.due("resident(0)", pool.resident(0), true);
        check.due("resident(1)", pool.resident(1), false);
        check.due("resident(4)", pool.resident(4), true);
        pool.unpin(0);
        check.due("resident(0) without pins", pool.resident(0), true);
        check.frame(pool, 0, 0, 0, 0, 1);
        pool.fetch(1);
        check.due("resident(0), gone", pool.resident(0), false);
        check.due("resident(1)", pool.resident(1), true);
        pool.unpin(1);
        pool.drop(4);
        check.due("resident(4), dropped", pool.resident(4), false);
        check.due("resident(5)", pool.resident(5), false);
        // A frame is empty here, and an empty frame's page is told as -1.
        for (int page : Check.FAR_OFF) {
            check.due("resident(" + page + ")", pool.resident(page), false);
        }
        check.counts(pool, 3, 0);
        check.end();
    }
}
