/** Promises 13 and 14: diskReads and diskWrites. */
public final class CountersTest {
    private static final Check CHECK = new Check("promises 13 and 14");

    public static void main(String[] args) {
        FramePool pool = new FramePool(2, 5, 1);
        CHECK.counts(pool, 0, 0);
        pool.fetch(0);
        CHECK.counts(pool, 1, 0);
        pool.fetch(0);
        pool.fetch(5);
        pool.fetch(-1);
        CHECK.counts(pool, 1, 0);
        pool.fetch(1);
        pool.fetch(2);
        CHECK.counts(pool, 2, 0);
        pool.writeWord(0, 0, 1);
        pool.writeWord(1, 0, 2);
        CHECK.counts(pool, 2, 0);
        pool.flush(0);
        CHECK.counts(pool, 2, 1);
        pool.flush(0);
        pool.flush(4);
        CHECK.counts(pool, 2, 1);
        pool.writeWord(0, 0, 3);
        pool.flushAll();
        CHECK.counts(pool, 2, 3);
        pool.copy(0, 1);
        pool.copy(0, 4);
        pool.readWord(0, 0);
        pool.diskWord(0, 0);
        CHECK.counts(pool, 2, 3);
        pool.unpin(0);
        pool.unpin(0);
        pool.fetch(3);
        CHECK.counts(pool, 3, 4);
        pool.unpin(0);
        pool.fetch(4);
        CHECK.counts(pool, 4, 4);
        pool.writeWord(0, 0, 5);
        pool.unpin(0);
        pool.drop(4);
        CHECK.counts(pool, 4, 4);
        pool.init();
        CHECK.counts(pool, 0, 0);
        CHECK.end();
    }
}
