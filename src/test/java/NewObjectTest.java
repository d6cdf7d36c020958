/** Promise 1: the sizes of a new object, and that it is as init() makes it. */
public final class NewObjectTest {
    private static final Check CHECK = new Check("promise 1");
    private static final int[] TOO_SMALL = {0, -1, -2, -8, -32, -200, Integer.MIN_VALUE, Integer.MIN_VALUE + 1};
    private static final int[] TOO_LARGE = {201, 202, 256, 257, 1 << 16, 1 << 30, Integer.MAX_VALUE - 1,
        Integer.MAX_VALUE};

    public static void main(String[] args) {
        framesBelowOne();
        framesAbove();
        framesBetween();
        pagesBelowOne();
        pagesAbove();
        pagesBetween();
        wordsBelowOne();
        wordsAbove();
        wordsBetween();
        allThree();
        asInitMakesIt();
        objectsAreApart();
        CHECK.end();
    }

    private static void framesBelowOne() {
        CHECK.sentence("Frames below 1 are 1");
        for (int frames : TOO_SMALL) {
            sizes(frames, 50, 4, 1, 50, 4);
        }
    }

    private static void framesAbove() {
        CHECK.sentence("above 32 they are 32");
        sizes(33, 50, 4, 32, 50, 4);
        sizes(34, 50, 4, 32, 50, 4);
        sizes(64, 50, 4, 32, 50, 4);
        for (int frames : TOO_LARGE) {
            sizes(frames, 50, 4, 32, 50, 4);
        }
    }

    private static void framesBetween() {
        CHECK.sentence("FramePool(int frames, int pages, int pageWords): frames");
        for (int frames = 1; frames <= 32; frames++) {
            sizes(frames, 50, 4, frames, 50, 4);
        }
    }

    private static void pagesBelowOne() {
        CHECK.sentence("pages below 1 are 1");
        for (int pages : TOO_SMALL) {
            sizes(3, pages, 4, 3, 1, 4);
        }
    }

    private static void pagesAbove() {
        CHECK.sentence("above 200 they are 200");
        for (int pages : TOO_LARGE) {
            sizes(3, pages, 4, 3, 200, 4);
        }
    }

    private static void pagesBetween() {
        CHECK.sentence("FramePool(int frames, int pages, int pageWords): pages");
        for (int pages = 1; pages <= 200; pages++) {
            sizes(3, pages, 4, 3, pages, 4);
        }
    }

    private static void wordsBelowOne() {
        CHECK.sentence("words below 1 are 1");
        for (int words : TOO_SMALL) {
            sizes(3, 50, words, 3, 50, 1);
        }
    }

    private static void wordsAbove() {
        CHECK.sentence("above 8 they are 8");
        sizes(3, 50, 9, 3, 50, 8);
        sizes(3, 50, 10, 3, 50, 8);
        sizes(3, 50, 16, 3, 50, 8);
        for (int words : TOO_LARGE) {
            sizes(3, 50, words, 3, 50, 8);
        }
    }

    private static void wordsBetween() {
        CHECK.sentence("FramePool(int frames, int pages, int pageWords): pageWords");
        for (int words = 1; words <= 8; words++) {
            sizes(3, 50, words, 3, 50, words);
        }
    }

    private static void allThree() {
        CHECK.sentence("Frames below 1 are 1 .. pages below 1 are 1 .. words below 1 are 1 (all three at once)");
        sizes(1, 1, 1, 1, 1, 1);
        sizes(32, 200, 8, 32, 200, 8);
        sizes(0, 0, 0, 1, 1, 1);
        sizes(33, 201, 9, 32, 200, 8);
        sizes(0, 201, 9, 1, 200, 8);
        sizes(33, 0, 9, 32, 1, 8);
        sizes(33, 201, 0, 32, 200, 1);
        sizes(Integer.MIN_VALUE, Integer.MIN_VALUE, Integer.MIN_VALUE, 1, 1, 1);
        sizes(Integer.MAX_VALUE, Integer.MAX_VALUE, Integer.MAX_VALUE, 32, 200, 8);
    }

    private static void sizes(int frames, int pages, int words, int dueFrames, int duePages, int dueWords) {
        String of = " of (" + frames + ", " + pages + ", " + words + ")";
        FramePool pool = new FramePool(frames, pages, words);
        CHECK.due("told(last, 0)" + of, pool.told(dueFrames - 1, 0), -1);
        CHECK.due("told(behind the last, 0)" + of, pool.told(dueFrames, 0), -5);
        CHECK.due("fetch(behind the last)" + of, pool.fetch(duePages), FramePool.BAD_PAGE);
        CHECK.due("fetch(last)" + of, pool.fetch(duePages - 1), 0);
        CHECK.due("writeWord(0, behind the last)" + of, pool.writeWord(0, dueWords, 7), FramePool.BAD_OFFSET);
        CHECK.due("writeWord(0, last)" + of, pool.writeWord(0, dueWords - 1, 7), 0);
        CHECK.due("readWord(0, last)" + of, pool.readWord(0, dueWords - 1), 7);
        pool.flushAll();
        CHECK.due("diskWord(last, last)" + of, pool.diskWord(duePages - 1, dueWords - 1), 7);
        // The other pages, as many as there are, until every frame has pins.
        for (int page = 0; page < Math.min(dueFrames, duePages) - 1; page++) {
            CHECK.due("fetch(" + page + ")" + of, pool.fetch(page), page + 1);
        }
        if (duePages > dueFrames) {
            CHECK.due("fetch, all pinned" + of, pool.fetch(dueFrames - 1), FramePool.ALL_PINNED);
        }
    }

    private static void asInitMakesIt() {
        CHECK.sentence("As init() makes it");
        FramePool pool = new FramePool(32, 200, 8);
        for (int f = 0; f < 32; f++) {
            CHECK.empty(pool, f);
        }
        CHECK.due("hand()", pool.hand(), 0);
        CHECK.due("pinned()", pool.pinned(), 0);
        CHECK.counts(pool, 0, 0);
        for (int[] size : new int[][] {{1, 1, 1}, {3, 6, 2}, {0, 0, 0}, {5, 8, 8}}) {
            int frames = Math.max(1, size[0]);
            int pages = Math.max(1, size[1]);
            int words = Math.max(1, size[2]);
            FramePool made = new FramePool(size[0], size[1], size[2]);
            FramePool again = new FramePool(size[0], size[1], size[2]);
            again.init();
            State.same(CHECK, "a new object beside one with init()", made, again, frames, pages, words);
        }
    }

    private static void objectsAreApart() {
        CHECK.sentence("A new object");
        FramePool one = new FramePool(2, 3, 2);
        FramePool other = new FramePool(2, 3, 2);
        one.fetch(1);
        one.writeWord(0, 0, 9);
        one.flushAll();
        State.same(CHECK, "an object whose neighbour was used", other, new FramePool(2, 3, 2), 2, 3, 2);
    }
}
