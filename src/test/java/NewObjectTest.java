/** Promise 1: the sizes of a new object, and that it is as init() makes it. */
public final class NewObjectTest {
    private static final Check CHECK = new Check("promise 1");

    public static void main(String[] args) {
        sizes(1, 1, 1, 1, 1, 1);
        sizes(2, 2, 2, 2, 2, 2);
        sizes(3, 50, 4, 3, 50, 4);
        sizes(31, 199, 7, 31, 199, 7);
        sizes(32, 200, 8, 32, 200, 8);
        sizes(33, 201, 9, 32, 200, 8);
        sizes(0, 0, 0, 1, 1, 1);
        sizes(-1, -1, -1, 1, 1, 1);
        sizes(0, 200, 8, 1, 200, 8);
        sizes(32, 0, 8, 32, 1, 8);
        sizes(32, 200, 0, 32, 200, 1);
        sizes(Integer.MIN_VALUE, Integer.MIN_VALUE, Integer.MIN_VALUE, 1, 1, 1);
        sizes(Integer.MAX_VALUE, Integer.MAX_VALUE, Integer.MAX_VALUE, 32, 200, 8);
        objectsAreApart();
        CHECK.end();
    }

    private static void sizes(int frames, int pages, int words, int dueFrames, int duePages, int dueWords) {
        FramePool pool = new FramePool(frames, pages, words);
        for (int f = 0; f < dueFrames; f++) {
            CHECK.empty(pool, f);
        }
        CHECK.due("told(" + dueFrames + ", 0)", pool.told(dueFrames, 0), -5);
        CHECK.due("hand()", pool.hand(), 0);
        CHECK.due("pinned()", pool.pinned(), 0);
        CHECK.counts(pool, 0, 0);
        CHECK.due("diskWord(last, last)", pool.diskWord(duePages - 1, dueWords - 1), 0);
        CHECK.due("fetch(behind the last)", pool.fetch(duePages), FramePool.BAD_PAGE);
        CHECK.due("fetch(last)", pool.fetch(duePages - 1), 0);
        CHECK.due("writeWord(0, last)", pool.writeWord(0, dueWords - 1, 7), 0);
        CHECK.due("writeWord(0, behind the last)", pool.writeWord(0, dueWords, 7), FramePool.BAD_OFFSET);
        CHECK.due("hand() after one fetch", pool.hand(), dueFrames == 1 ? 0 : 1);
    }

    private static void objectsAreApart() {
        FramePool one = new FramePool(2, 3, 2);
        FramePool other = new FramePool(2, 3, 2);
        one.fetch(1);
        one.writeWord(0, 0, 9);
        one.flushAll();
        CHECK.empty(other, 0);
        CHECK.due("diskWord(1, 0) of the other", other.diskWord(1, 0), 0);
        CHECK.counts(other, 0, 0);
    }
}
