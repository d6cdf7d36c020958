/** A refused call has the answer that the document names, and leaves the object as it was. */
public final class RefusedTest {
    private static final Check CHECK = new Check("a refused call");
    private static final int FRAMES = 3;
    private static final int PAGES = 6;
    private static final int WORDS = 2;

    private interface Call {
        int on(FramePool pool);
    }

    /** Objects in which calls can be refused for different causes. */
    private enum Used {
        /** All frames are empty. */
        NEW,
        /** Pages 5, 1 and 3 in frames 0, 1 and 2, all with pins, the first two dirty; the hand at 1. */
        ALL_WITH_PINS,
        /** The same pages, none with pins, all with marks. */
        NONE_WITH_PINS,
        /** Frame 0 has page 5, dirty, no pins, no mark; frame 1 page 2 with a pin; frame 2 is empty; the hand at 2. */
        MIXED;

        FramePool make() {
            FramePool pool = new FramePool(FRAMES, PAGES, WORDS);
            if (this != NEW) {
                pinAll(pool);
            }
            if (this == NONE_WITH_PINS || this == MIXED) {
                unpinAll(pool);
            }
            if (this == MIXED) {
                pool.fetch(2);
                pool.drop(3);
            }
            return pool;
        }

        private static void pinAll(FramePool pool) {
            pool.fetch(0);
            pool.writeWord(0, 0, 7);
            pool.writeWord(0, 1, 8);
            pool.unpin(0);
            pool.fetch(1);
            pool.fetch(3);
            pool.fetch(5);
            pool.fetch(1);
            pool.writeWord(1, 0, 11);
            pool.flush(1);
            pool.writeWord(1, 0, 12);
            pool.writeWord(0, 1, 55);
        }

        private static void unpinAll(FramePool pool) {
            pool.unpin(0);
            pool.unpin(1);
            pool.unpin(1);
            pool.unpin(2);
        }
    }

    public static void main(String[] args) {
        theObjectsAreAsTold();
        for (Used used : Used.values()) {
            noSuchPage(used);
            noSuchFrame(used);
            noSuchWord(used);
            noSuchWhat(used);
            looks(used);
        }
        allPinned();
        framesWithoutPins();
        pagesInNoFrame();
        pagesWithoutPins();
        pagesWithPins();
        pagesNotDirty();
        CHECK.end();
    }

    private static void refused(Used used, String call, Call made, int due) {
        FramePool pool = used.make();
        CHECK.due(used + ": " + call, made.on(pool), due);
        State.same(CHECK, used + " after " + call, pool, used.make(), FRAMES, PAGES, WORDS);
    }

    private static void theObjectsAreAsTold() {
        FramePool all = Used.ALL_WITH_PINS.make();
        CHECK.frame(all, 0, 5, 1, 1, 1);
        CHECK.frame(all, 1, 1, 2, 1, 1);
        CHECK.frame(all, 2, 3, 1, 0, 1);
        CHECK.due("hand()", all.hand(), 1);
        FramePool mixed = Used.MIXED.make();
        CHECK.frame(mixed, 0, 5, 0, 1, 0);
        CHECK.frame(mixed, 1, 2, 1, 0, 1);
        CHECK.empty(mixed, 2);
        CHECK.due("hand()", mixed.hand(), 2);
    }

    /** What lies just behind the last, and all that is far off. */
    private static int[] outside(int count) {
        int[] numbers = new int[Check.FAR_OFF.length + 1];
        numbers[0] = count;
        System.arraycopy(Check.FAR_OFF, 0, numbers, 1, Check.FAR_OFF.length);
        return numbers;
    }

    private static void noSuchPage(Used used) {
        CHECK.sentence("BAD_PAGE, 0 or False when there is no such page");
        for (int page : outside(PAGES)) {
            refused(used, "fetch(" + page + ")", pool -> pool.fetch(page), FramePool.BAD_PAGE);
            refused(used, "flush(" + page + ")", pool -> pool.flush(page), 0);
            refused(used, "drop(" + page + ")", pool -> pool.drop(page) ? 1 : 0, 0);
            refused(used, "resident(" + page + ")", pool -> pool.resident(page) ? 1 : 0, 0);
            refused(used, "copy(both " + page + ")", pool -> pool.copy(page, page), FramePool.BAD_PAGE);
            for (int other = 0; other < PAGES; other++) {
                int there = other;
                refused(used, "copy(" + page + ", " + there + ")", pool -> pool.copy(page, there), FramePool.BAD_PAGE);
                refused(used, "copy(" + there + ", " + page + ")", pool -> pool.copy(there, page), FramePool.BAD_PAGE);
            }
            for (int off = -1; off <= WORDS; off++) {
                int word = off;
                refused(used, "diskWord(" + page + ", " + word + ")", pool -> pool.diskWord(page, word), 0);
            }
        }
    }

    private static void noSuchFrame(Used used) {
        CHECK.sentence("NOT_PINNED, 0 or -5 when there is no such frame");
        for (int f : outside(FRAMES)) {
            refused(used, "unpin(" + f + ")", pool -> pool.unpin(f), FramePool.NOT_PINNED);
            for (int off = -1; off <= WORDS; off++) {
                int word = off;
                refused(used, "readWord(" + f + ", " + word + ")", pool -> pool.readWord(f, word), 0);
                refused(used, "writeWord(" + f + ", " + word + ", 99)", pool -> pool.writeWord(f, word, 99),
                    FramePool.NOT_PINNED);
            }
            for (int what = -1; what <= 4; what++) {
                int asked = what;
                refused(used, "told(" + f + ", " + asked + ")", pool -> pool.told(f, asked), -5);
            }
        }
    }

    private static void noSuchWord(Used used) {
        CHECK.sentence("BAD_OFFSET or 0 when there is no such word");
        for (int off : outside(WORDS)) {
            for (int f = 0; f < FRAMES; f++) {
                int frame = f;
                int due = used.make().told(f, 1) > 0 ? FramePool.BAD_OFFSET : FramePool.NOT_PINNED;
                refused(used, "readWord(" + f + ", " + off + ")", pool -> pool.readWord(frame, off), 0);
                refused(used, "writeWord(" + f + ", " + off + ", 99)", pool -> pool.writeWord(frame, off, 99), due);
            }
            for (int page = 0; page < PAGES; page++) {
                int there = page;
                refused(used, "diskWord(" + page + ", " + off + ")", pool -> pool.diskWord(there, off), 0);
            }
        }
    }

    private static void noSuchWhat(Used used) {
        CHECK.sentence("-5 .. for others");
        for (int what : outside(4)) {
            for (int f = 0; f < FRAMES; f++) {
                int frame = f;
                refused(used, "told(" + f + ", " + what + ")", pool -> pool.told(frame, what), -5);
            }
        }
    }

    /** Calls that only ask are no refused calls, but leave the object as it was too. */
    private static void looks(Used used) {
        CHECK.sentence("calls that only ask");
        FramePool pool = used.make();
        for (int f = 0; f < FRAMES; f++) {
            for (int what = 0; what < 4; what++) {
                pool.told(f, what);
            }
            pool.readWord(f, 0);
            pool.readWord(f, WORDS - 1);
        }
        for (int page = 0; page < PAGES; page++) {
            pool.resident(page);
            pool.diskWord(page, 0);
            pool.diskWord(page, WORDS - 1);
        }
        pool.hand();
        pool.pinned();
        pool.diskReads();
        pool.diskWrites();
        State.same(CHECK, used + " after calls that only ask", pool, used.make(), FRAMES, PAGES, WORDS);
    }

    private static void allPinned() {
        CHECK.sentence("ALL_PINNED when no frame has it and all have pins");
        for (int page : new int[] {0, 2, 4}) {
            refused(Used.ALL_WITH_PINS, "fetch(" + page + ")", pool -> pool.fetch(page), FramePool.ALL_PINNED);
        }
    }

    private static void framesWithoutPins() {
        CHECK.sentence("NOT_PINNED or 0 when a frame has no pins");
        for (int f = 0; f < FRAMES; f++) {
            withoutPins(Used.NEW, f);
            withoutPins(Used.NONE_WITH_PINS, f);
        }
        withoutPins(Used.MIXED, 0);
        withoutPins(Used.MIXED, 2);
    }

    private static void withoutPins(Used used, int f) {
        refused(used, "unpin(" + f + ")", pool -> pool.unpin(f), FramePool.NOT_PINNED);
        for (int off = 0; off < WORDS; off++) {
            int word = off;
            refused(used, "readWord(" + f + ", " + off + ")", pool -> pool.readWord(f, word), 0);
            refused(used, "writeWord(" + f + ", " + off + ", 99)", pool -> pool.writeWord(f, word, 99),
                FramePool.NOT_PINNED);
        }
    }

    private static void pagesInNoFrame() {
        CHECK.sentence("0, False or NOT_PINNED when a page is in no frame");
        for (int page = 0; page < PAGES; page++) {
            inNoFrame(Used.NEW, page);
        }
        for (int page : new int[] {0, 2, 4}) {
            inNoFrame(Used.ALL_WITH_PINS, page);
            inNoFrame(Used.NONE_WITH_PINS, page);
        }
        for (int page : new int[] {0, 1, 3, 4}) {
            inNoFrame(Used.MIXED, page);
        }
    }

    private static void inNoFrame(Used used, int page) {
        refused(used, "flush(" + page + ")", pool -> pool.flush(page), 0);
        refused(used, "drop(" + page + ")", pool -> pool.drop(page) ? 1 : 0, 0);
        notCopied(used, page);
    }

    private static void notCopied(Used used, int page) {
        for (int other = 0; other < PAGES; other++) {
            int from = other;
            refused(used, "copy(" + page + ", " + from + ")", pool -> pool.copy(page, from), FramePool.NOT_PINNED);
        }
    }

    private static void pagesWithoutPins() {
        CHECK.sentence("NOT_PINNED when the page itself is in no frame with pins");
        for (int page : new int[] {5, 1, 3}) {
            notCopied(Used.NONE_WITH_PINS, page);
        }
        notCopied(Used.MIXED, 5);
    }

    private static void pagesWithPins() {
        CHECK.sentence("False when .. it has pins");
        for (int page : new int[] {5, 1, 3}) {
            refused(Used.ALL_WITH_PINS, "drop(" + page + ")", pool -> pool.drop(page) ? 1 : 0, 0);
        }
        refused(Used.MIXED, "drop(2)", pool -> pool.drop(2) ? 1 : 0, 0);
    }

    private static void pagesNotDirty() {
        CHECK.sentence("dirty .. otherwise 0");
        refused(Used.ALL_WITH_PINS, "flush(3)", pool -> pool.flush(3), 0);
        refused(Used.NONE_WITH_PINS, "flush(3)", pool -> pool.flush(3), 0);
        refused(Used.MIXED, "flush(2)", pool -> pool.flush(2), 0);
        refused(Used.NEW, "flushAll()", pool -> pool.flushAll(), 0);
    }
}
