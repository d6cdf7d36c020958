/** What the document says before its promises: 512 calls, how things are numbered, what an empty frame has. */
public final class TermsTest {
    private static final Check CHECK = new Check("terms");

    public static void main(String[] args) {
        theLastCallOfAnObject();
        pagesAreNumberedFromZero();
        wordsAreNumberedFromZero();
        framesAreNumberedFromZero();
        theHandStandsAtZeroAtFirst();
        anEmptyFrameHasNothing();
        CHECK.end();
    }

    private static void theLastCallOfAnObject() {
        CHECK.sentence("An object is used for at most 512 calls after it has been made");
        FramePool pins = new FramePool(2, 3, 2);
        for (int call = 1; call <= 511; call++) {
            CHECK.due("fetch(1), call " + call, pins.fetch(1), 0);
        }
        CHECK.due("told(0, 1), call 512", pins.told(0, 1), 511);
        FramePool round = new FramePool(1, 200, 1);
        for (int pair = 0; pair < 255; pair++) {
            CHECK.due("fetch, call " + (2 * pair + 1), round.fetch(pair % 200), 0);
            CHECK.due("unpin(0), call " + (2 * pair + 2), round.unpin(0), 0);
        }
        CHECK.due("diskReads(), call 511", round.diskReads(), 255);
        CHECK.due("fetch(199), call 512", round.fetch(199), 0);
    }

    private static void pagesAreNumberedFromZero() {
        CHECK.sentence("THE DISK has so many PAGES (numbered from 0)");
        for (int pages : new int[] {1, 2, 6, 199, 200}) {
            FramePool pool = new FramePool(1, pages, 1);
            CHECK.due("fetch(-1)", pool.fetch(-1), FramePool.BAD_PAGE);
            for (int page = 0; page < pages; page++) {
                CHECK.due("fetch(" + page + ") of " + pages, pool.fetch(page), 0);
                pool.unpin(0);
            }
            CHECK.due("fetch(" + pages + ") of " + pages, pool.fetch(pages), FramePool.BAD_PAGE);
        }
    }

    private static void wordsAreNumberedFromZero() {
        CHECK.sentence("of so many WORDS");
        for (int words = 1; words <= 8; words++) {
            FramePool pool = new FramePool(1, 2, words);
            pool.fetch(1);
            for (int off = 0; off < words; off++) {
                CHECK.due("writeWord(0, " + off + ") of " + words, pool.writeWord(0, off, off + 1), 0);
            }
            pool.flush(1);
            for (int off = 0; off < words; off++) {
                CHECK.due("readWord(0, " + off + ") of " + words, pool.readWord(0, off), off + 1);
                CHECK.due("diskWord(1, " + off + ") of " + words, pool.diskWord(1, off), off + 1);
            }
            CHECK.due("writeWord(0, -1)", pool.writeWord(0, -1, 9), FramePool.BAD_OFFSET);
            CHECK.due("writeWord(0, " + words + ")", pool.writeWord(0, words, 9), FramePool.BAD_OFFSET);
        }
    }

    private static void framesAreNumberedFromZero() {
        CHECK.sentence("A FRAME (numbered from 0)");
        for (int frames = 1; frames <= 32; frames++) {
            FramePool pool = new FramePool(frames, 40, 1);
            for (int f = 0; f < frames; f++) {
                CHECK.due("fetch(" + f + ") of " + frames + " frames", pool.fetch(f), f);
                CHECK.due("unpin(" + f + ") of " + frames, pool.unpin(f), 0);
            }
            CHECK.due("told(-1, 0)", pool.told(-1, 0), -5);
            CHECK.due("told(" + frames + ", 0)", pool.told(frames, 0), -5);
        }
    }

    private static void theHandStandsAtZeroAtFirst() {
        CHECK.sentence("THE HAND stands at a frame, 0 at first");
        for (int frames : new int[] {1, 2, 32}) {
            FramePool pool = new FramePool(frames, 3, 1);
            CHECK.due("hand() of " + frames + " frames", pool.hand(), 0);
            CHECK.due("fetch(2)", pool.fetch(2), 0);
        }
    }

    private static void anEmptyFrameHasNothing() {
        CHECK.sentence("is empty, or has a page, a number of PINS, whether it is DIRTY, and a MARK");
        FramePool pool = new FramePool(2, 5, 2);
        CHECK.empty(pool, 0);
        CHECK.empty(pool, 1);
        pool.fetch(0);
        pool.writeWord(0, 0, 3);
        pool.unpin(0);
        CHECK.frame(pool, 0, 0, 0, 1, 1);
        pool.drop(0);
        CHECK.empty(pool, 0);
        pool.fetch(1);
        pool.writeWord(1, 1, 4);
        pool.init();
        CHECK.empty(pool, 0);
        CHECK.empty(pool, 1);
    }
}
