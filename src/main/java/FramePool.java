import java.util.Arrays;

/** A pool of frames over a disk of pages; the frame to be used again is found by a hand that goes round. */
public final class FramePool {
    public static final int ALL_PINNED = -1;
    public static final int BAD_PAGE = -2;
    public static final int NOT_PINNED = -3;
    public static final int BAD_OFFSET = -4;

    private static final int MAX_FRAMES = 32;
    private static final int MAX_PAGES = 200;
    private static final int MAX_PAGE_WORDS = 8;

    private static final int NO_FRAME = -1;
    private static final int NO_PAGE = -1;
    private static final int NOT_TOLD = -5;

    private final int frameCount;
    private final int pageCount;
    private final int pageWords;

    // Words lie page behind page (frame behind frame) in one row: a row for each page would make
    // some two hundred arrays more for every object.
    private final int[] diskWords;
    private final int[] frameWords;

    private final int[] pageOf;
    private final int[] pins;
    private final boolean[] dirty;
    private final boolean[] marked;

    private int hand;
    private int reads;
    private int writes;

    public FramePool(int frames, int pages, int pageWords) {
        this.frameCount = within(frames, MAX_FRAMES);
        this.pageCount = within(pages, MAX_PAGES);
        this.pageWords = within(pageWords, MAX_PAGE_WORDS);
        this.diskWords = new int[this.pageCount * this.pageWords];
        this.frameWords = new int[this.frameCount * this.pageWords];
        this.pageOf = new int[this.frameCount];
        this.pins = new int[this.frameCount];
        this.dirty = new boolean[this.frameCount];
        this.marked = new boolean[this.frameCount];
        init();
    }

    public void init() {
        for (int f = 0; f < frameCount; f++) {
            makeEmpty(f);
        }
        Arrays.fill(diskWords, 0);
        hand = 0;
        reads = 0;
        writes = 0;
    }

    public int fetch(int page) {
        if (!isPage(page)) {
            return BAD_PAGE;
        }
        int f = frameOf(page);
        if (f == NO_FRAME) {
            f = findFrame();
            if (f == NO_FRAME) {
                return ALL_PINNED;
            }
            readFromDisk(f, page);
        }
        pins[f]++;
        marked[f] = true;
        return f;
    }

    public int unpin(int f) {
        if (!isPinnedFrame(f)) {
            return NOT_PINNED;
        }
        pins[f]--;
        return pins[f];
    }

    public int readWord(int f, int off) {
        if (!isPinnedFrame(f) || !isOffset(off)) {
            return 0;
        }
        return frameWords[f * pageWords + off];
    }

    public int writeWord(int f, int off, int w) {
        if (!isPinnedFrame(f)) {
            return NOT_PINNED;
        }
        if (!isOffset(off)) {
            return BAD_OFFSET;
        }
        frameWords[f * pageWords + off] = w;
        dirty[f] = true;
        return 0;
    }

    public int flush(int page) {
        int f = frameOf(page);
        if (f == NO_FRAME || !dirty[f]) {
            return 0;
        }
        writeToDisk(f);
        return 1;
    }

    public int flushAll() {
        int written = 0;
        for (int f = 0; f < frameCount; f++) {
            if (dirty[f]) {
                writeToDisk(f);
                written++;
            }
        }
        return written;
    }

    public boolean drop(int page) {
        int f = frameOf(page);
        if (f == NO_FRAME || pins[f] > 0) {
            return false;
        }
        makeEmpty(f);
        return true;
    }

    public int copy(int page, int from) {
        if (!isPage(page) || !isPage(from)) {
            return BAD_PAGE;
        }
        int f = frameOf(page);
        if (!isPinnedFrame(f)) {
            return NOT_PINNED;
        }
        int source = frameOf(from);
        if (source == NO_FRAME) {
            copyWords(diskWords, from, frameWords, f);
        } else {
            copyWords(frameWords, source, frameWords, f);
        }
        dirty[f] = true;
        return 0;
    }

    public int diskWord(int page, int off) {
        if (!isPage(page) || !isOffset(off)) {
            return 0;
        }
        return diskWords[page * pageWords + off];
    }

    public boolean resident(int page) {
        return frameOf(page) != NO_FRAME;
    }

    public int diskReads() {
        return reads;
    }

    public int diskWrites() {
        return writes;
    }

    public int told(int f, int what) {
        if (!isFrame(f)) {
            return NOT_TOLD;
        }
        switch (what) {
            case 0:
                return pageOf[f];
            case 1:
                return pins[f];
            case 2:
                return dirty[f] ? 1 : 0;
            case 3:
                return marked[f] ? 1 : 0;
            default:
                return NOT_TOLD;
        }
    }

    public int hand() {
        return hand;
    }

    public int pinned() {
        int count = 0;
        for (int f = 0; f < frameCount; f++) {
            if (pins[f] > 0) {
                count++;
            }
        }
        return count;
    }

    private static int within(int wanted, int most) {
        return Math.max(1, Math.min(wanted, most));
    }

    private boolean isPage(int page) {
        return page >= 0 && page < pageCount;
    }

    private boolean isFrame(int f) {
        return f >= 0 && f < frameCount;
    }

    private boolean isPinnedFrame(int f) {
        return isFrame(f) && pins[f] > 0;
    }

    private boolean isOffset(int off) {
        return off >= 0 && off < pageWords;
    }

    private int frameOf(int page) {
        // An empty frame bears NO_PAGE, so a number that is no page must not be looked for.
        if (!isPage(page)) {
            return NO_FRAME;
        }
        for (int f = 0; f < frameCount; f++) {
            if (pageOf[f] == page) {
                return f;
            }
        }
        return NO_FRAME;
    }

    private int findFrame() {
        if (pinned() == frameCount) {
            return NO_FRAME;
        }
        // Two rounds are enough: what the first leaves without pins has no mark in the second.
        for (int looks = 0; looks < 2 * frameCount; looks++) {
            int f = hand;
            moveHand();
            if (lookAt(f)) {
                return f;
            }
        }
        return NO_FRAME;
    }

    private void moveHand() {
        hand = hand + 1 < frameCount ? hand + 1 : 0;
    }

    /** Whether the frame is found; it is empty then. */
    private boolean lookAt(int f) {
        if (pins[f] > 0) {
            return false;
        }
        if (marked[f]) {
            marked[f] = false;
            return false;
        }
        if (dirty[f]) {
            writeToDisk(f);
        }
        makeEmpty(f);
        return true;
    }

    private void makeEmpty(int f) {
        pageOf[f] = NO_PAGE;
        pins[f] = 0;
        dirty[f] = false;
        marked[f] = false;
    }

    private void readFromDisk(int f, int page) {
        copyWords(diskWords, page, frameWords, f);
        pageOf[f] = page;
        reads++;
    }

    private void writeToDisk(int f) {
        copyWords(frameWords, f, diskWords, pageOf[f]);
        dirty[f] = false;
        writes++;
    }

    private void copyWords(int[] source, int from, int[] target, int to) {
        System.arraycopy(source, from * pageWords, target, to * pageWords, pageWords);
    }
}
