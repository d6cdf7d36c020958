/** Promise 5: readWord. */
public final class ReadWordTest {
    public static void main(String[] args) {
        Check check = new Check("promise 5");
        FramePool pool = new FramePool(2, 5, 3);
        pool.fetch(1);
        pool.fetch(2);
        for (int off = 0; off < 3; off++) {
            pool.writeWord(0, off, 10 + off);
            pool.writeWord(1, off, Integer.MIN_VALUE + off);
        }
        for (int off = 0; off < 3; off++) {
            check.due("readWord(0, " + off + ")", pool.readWord(0, off), 10 + off);
            check.due("readWord(1, " + off + ")", pool.readWord(1, off), Integer.MIN_VALUE + off);
        }
        check.due("readWord(0, 3)", pool.readWord(0, 3), 0);
        check.due("readWord(1, -1)", pool.readWord(1, -1), 0);
        check.due("readWord(2, 0)", pool.readWord(2, 0), 0);
        check.due("readWord(-1, 3)", pool.readWord(-1, 3), 0);
        for (int far : Check.FAR_OFF) {
            check.due("readWord(0, " + far + ")", pool.readWord(0, far), 0);
            check.due("readWord(" + far + ", 0)", pool.readWord(far, 0), 0);
            check.due("readWord(" + far + ", " + far + ")", pool.readWord(far, far), 0);
        }
        pool.unpin(0);
        check.due("readWord(0, 0) without pins", pool.readWord(0, 0), 0);
        check.frame(pool, 0, 1, 0, 1, 1);
        pool.fetch(1);
        check.due("readWord(0, 0) with a pin again", pool.readWord(0, 0), 10);
        pool.unpin(0);
        pool.drop(1);
        check.due("readWord(0, 0) of an empty frame", pool.readWord(0, 0), 0);
        check.counts(pool, 2, 0);
        check.end();
    }
}
