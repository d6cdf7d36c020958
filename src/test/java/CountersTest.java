/** Promises 13 and 14: diskReads and diskWrites. */
public final class CountersTest {
    private static final Check CHECK = new Check("promises 13 and 14");

    public static void main(String[] args) {
        noneAtFirst();
        readsOfFetch();
        noReads();
        writesOfFlush();
        writesOfFlushAll();
        writesWhenAPageGoes();
        noWrites();
        noneAfterInit();
        CHECK.end();
    }

    private static void noneAtFirst() {
        CHECK.sentence("How many .. there were (none)");
        CHECK.counts(new FramePool(2, 5, 1), 0, 0);
    }

    private static void readsOfFetch() {
        CHECK.sentence("How many READs there were");
        FramePool pool = new FramePool(1, 5, 1);
        for (int reads = 1; reads <= 20; reads++) {
            pool.fetch(reads % 5);
            CHECK.counts(pool, reads, 0);
            pool.unpin(0);
        }
    }

    private static void noReads() {
        CHECK.sentence("How many READs there were (calls that are none)");
        FramePool pool = new FramePool(1, 5, 1);
        pool.fetch(0);
        pool.fetch(0);
        CHECK.counts(pool, 1, 0);
        pool.fetch(5);
        pool.fetch(-1);
        CHECK.counts(pool, 1, 0);
        pool.fetch(1);
        CHECK.counts(pool, 1, 0);
        pool.copy(0, 4);
        pool.readWord(0, 0);
        pool.diskWord(0, 0);
        pool.resident(0);
        CHECK.counts(pool, 1, 0);
    }

    private static void writesOfFlush() {
        CHECK.sentence("How many WRITEs there were (flush)");
        FramePool pool = new FramePool(2, 5, 1);
        pool.fetch(0);
        for (int writes = 1; writes <= 20; writes++) {
            pool.writeWord(0, 0, writes);
            CHECK.counts(pool, 1, writes - 1);
            pool.flush(0);
            CHECK.counts(pool, 1, writes);
        }
    }

    private static void writesOfFlushAll() {
        CHECK.sentence("How many WRITEs there were (flushAll)");
        FramePool pool = new FramePool(3, 5, 1);
        pool.fetch(0);
        pool.fetch(1);
        pool.fetch(2);
        pool.writeWord(0, 0, 1);
        pool.writeWord(2, 0, 2);
        pool.flushAll();
        CHECK.counts(pool, 3, 2);
        pool.flushAll();
        CHECK.counts(pool, 3, 2);
    }

    private static void writesWhenAPageGoes() {
        CHECK.sentence("How many WRITEs there were (a dirty page had to go)");
        FramePool pool = new FramePool(1, 5, 1);
        pool.fetch(0);
        pool.writeWord(0, 0, 1);
        pool.unpin(0);
        pool.fetch(1);
        CHECK.counts(pool, 2, 1);
        pool.unpin(0);
        pool.fetch(2);
        CHECK.counts(pool, 3, 1);
        pool.copy(2, 0);
        pool.unpin(0);
        pool.fetch(3);
        CHECK.counts(pool, 4, 2);
    }

    private static void noWrites() {
        CHECK.sentence("How many WRITEs there were (calls that are none)");
        FramePool pool = new FramePool(2, 5, 1);
        pool.flush(0);
        pool.flush(-1);
        pool.flush(5);
        pool.flushAll();
        pool.fetch(0);
        pool.flush(0);
        pool.writeWord(0, 0, 1);
        pool.copy(0, 1);
        CHECK.counts(pool, 1, 0);
        pool.unpin(0);
        pool.drop(0);
        CHECK.counts(pool, 1, 0);
    }

    private static void noneAfterInit() {
        CHECK.sentence("nothing was read or written");
        FramePool pool = new FramePool(2, 5, 1);
        pool.fetch(0);
        pool.writeWord(0, 0, 1);
        pool.flush(0);
        CHECK.counts(pool, 1, 1);
        pool.init();
        CHECK.counts(pool, 0, 0);
    }
}
