/** Promise 11: diskWord. */
public final class DiskWordTest {
    private static final Check CHECK = new Check("promise 11");

    public static void main(String[] args) {
        theWordThatTheDiskHas();
        notTheFramesWord();
        noSuchPage();
        noSuchWord();
        neitherPageNorWord();
        farPagesOfEightWords();
        CHECK.end();
    }

    /** A disk of four pages of three words, none of them 0; all pages are in frames as well. */
    private static FramePool written() {
        FramePool pool = new FramePool(4, 4, 3);
        for (int page = 0; page < 4; page++) {
            pool.fetch(page);
            for (int off = 0; off < 3; off++) {
                pool.writeWord(page, off, 10 * page + off + 1);
            }
        }
        pool.flushAll();
        return pool;
    }

    private static void theWordThatTheDiskHas() {
        CHECK.sentence("The word that the disk has");
        FramePool pool = written();
        for (int page = 0; page < 4; page++) {
            for (int off = 0; off < 3; off++) {
                CHECK.due("diskWord(" + page + ", " + off + ")", pool.diskWord(page, off), 10 * page + off + 1);
            }
        }
        CHECK.counts(pool, 4, 4);
        FramePool largest = new FramePool(1, 200, 8);
        largest.fetch(199);
        largest.writeWord(0, 7, 5);
        largest.flushAll();
        CHECK.due("diskWord(199, 7)", largest.diskWord(199, 7), 5);
    }

    private static void notTheFramesWord() {
        CHECK.sentence("that the disk has");
        FramePool pool = new FramePool(2, 4, 3);
        pool.fetch(2);
        pool.writeWord(0, 0, 9);
        CHECK.due("diskWord(2, 0), never written", pool.diskWord(2, 0), 0);
        pool.flush(2);
        pool.writeWord(0, 0, 99);
        CHECK.due("diskWord(2, 0), the frame dirty", pool.diskWord(2, 0), 9);
        pool.unpin(0);
        pool.drop(2);
        CHECK.due("diskWord(2, 0), in no frame", pool.diskWord(2, 0), 9);
    }

    private static void noSuchPage() {
        CHECK.sentence("0 when there is none such (no such page)");
        FramePool pool = written();
        CHECK.due("diskWord(4, 0)", pool.diskWord(4, 0), 0);
        CHECK.due("diskWord(-1, 2)", pool.diskWord(-1, 2), 0);
        for (int page : Check.FAR_OFF) {
            CHECK.due("diskWord(" + page + ", 0)", pool.diskWord(page, 0), 0);
        }
    }

    private static void noSuchWord() {
        CHECK.sentence("0 when there is none such (no such word)");
        FramePool pool = written();
        for (int page = 0; page < 4; page++) {
            // Neither the page before nor the page behind may show here.
            CHECK.due("diskWord(" + page + ", 3)", pool.diskWord(page, 3), 0);
            CHECK.due("diskWord(" + page + ", -1)", pool.diskWord(page, -1), 0);
            for (int off : Check.FAR_OFF) {
                CHECK.due("diskWord(" + page + ", " + off + ")", pool.diskWord(page, off), 0);
            }
        }
    }

    private static void neitherPageNorWord() {
        CHECK.sentence("0 when there is none such (neither page nor word)");
        FramePool pool = written();
        CHECK.due("diskWord(-1, 3)", pool.diskWord(-1, 3), 0);
        CHECK.due("diskWord(4, -1)", pool.diskWord(4, -1), 0);
        for (int far : Check.FAR_OFF) {
            CHECK.due("diskWord(" + far + ", " + far + ")", pool.diskWord(far, far), 0);
        }
    }

    /** Times eight, some of these numbers wrap round to a place on the disk. */
    private static void farPagesOfEightWords() {
        CHECK.sentence("0 when there is none such (far pages of eight words)");
        FramePool pool = new FramePool(1, 200, 8);
        pool.fetch(0);
        pool.writeWord(0, 0, 5);
        pool.flush(0);
        for (int page : Check.FAR_OFF) {
            CHECK.due("diskWord(" + page + ", 0)", pool.diskWord(page, 0), 0);
        }
        CHECK.due("diskWord(0, 0)", pool.diskWord(0, 0), 5);
    }
}
