/** Promise 11: diskWord. */
public final class DiskWordTest {
    public static void main(String[] args) {
        Check check = new Check("promise 11");
        FramePool pool = new FramePool(4, 4, 3);
        for (int page = 0; page < 4; page++) {
            pool.fetch(page);
            for (int off = 0; off < 3; off++) {
                pool.writeWord(page, off, 10 * page + off + 1);
                check.due("diskWord before the write", pool.diskWord(page, off), 0);
            }
        }
        pool.flushAll();
        for (int page = 0; page < 4; page++) {
            for (int off = 0; off < 3; off++) {
                check.due("diskWord(" + page + ", " + off + ")", pool.diskWord(page, off), 10 * page + off + 1);
            }
            // Neither the page before nor the page behind may show here.
            check.due("diskWord(" + page + ", 3)", pool.diskWord(page, 3), 0);
            check.due("diskWord(" + page + ", -1)", pool.diskWord(page, -1), 0);
        }
        check.due("diskWord(4, 0)", pool.diskWord(4, 0), 0);
        check.due("diskWord(-1, 3)", pool.diskWord(-1, 3), 0);
        for (int far : Check.FAR_OFF) {
            check.due("diskWord(0, " + far + ")", pool.diskWord(0, far), 0);
            check.due("diskWord(" + far + ", 0)", pool.diskWord(far, 0), 0);
            check.due("diskWord(" + far + ", " + far + ")", pool.diskWord(far, far), 0);
        }
        pool.writeWord(2, 0, 99);
        check.due("diskWord(2, 0), frame dirty", pool.diskWord(2, 0), 21);
        check.counts(pool, 4, 4);
        farPagesOfEightWords(check);
        check.end();
    }

    /** Times eight, some of these numbers wrap round to a place on the disk. */
    private static void farPagesOfEightWords(Check check) {
        FramePool pool = new FramePool(1, 200, 8);
        pool.fetch(0);
        pool.writeWord(0, 0, 5);
        pool.flush(0);
        for (int page : Check.FAR_OFF) {
            check.due("diskWord(" + page + ", 0)", pool.diskWord(page, 0), 0);
        }
        check.due("diskWord(0, 0)", pool.diskWord(0, 0), 5);
    }
}
