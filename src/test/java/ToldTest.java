/** Promise 15: told. */
public final class ToldTest {
    public static void main(String[] args) {
        Check check = new Check("promise 15");
        FramePool pool = new FramePool(3, 9, 2);
        check.empty(pool, 0);
        pool.fetch(8);
        pool.fetch(8);
        pool.fetch(0);
        check.frame(pool, 0, 8, 2, 0, 1);
        check.frame(pool, 1, 0, 1, 0, 1);
        check.empty(pool, 2);
        pool.writeWord(0, 0, 1);
        check.frame(pool, 0, 8, 2, 1, 1);
        check.frame(pool, 1, 0, 1, 0, 1);
        pool.flush(8);
        check.frame(pool, 0, 8, 2, 0, 1);
        pool.unpin(1);
        pool.fetch(3);
        // The hand stood at the empty frame 2 and found it at once, so frame 1 keeps its mark.
        check.frame(pool, 1, 0, 0, 0, 1);
        check.frame(pool, 2, 3, 1, 0, 1);
        pool.unpin(2);
        pool.fetch(4);
        check.frame(pool, 1, 4, 1, 0, 1);
        check.frame(pool, 2, 3, 0, 0, 0);
        check.due("told(3, 0)", pool.told(3, 0), -5);
        check.due("told(0, 4)", pool.told(0, 4), -5);
        for (int far : Check.FAR_OFF) {
            check.due("told(0, " + far + ")", pool.told(0, far), -5);
            check.due("told(" + far + ", " + far + ")", pool.told(far, far), -5);
            for (int what = 0; what < 4; what++) {
                check.due("told(" + far + ", " + what + ")", pool.told(far, what), -5);
            }
        }
        check.end();
    }
}
