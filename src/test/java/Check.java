/** Holds answers against what is due; what all tests share. */
final class Check {
    /** Numbers that lie outside every range of the document, whatever the object's size. */
    static final int[] FAR_OFF = {-1, -2, -5, 200, 256, 1 << 29, 1 << 30, Integer.MAX_VALUE, Integer.MIN_VALUE};

    private final String promise;
    private String sentence = "";
    private int wrong;

    Check(String promise) {
        this.promise = promise;
    }

    /** What the answers from here on are held against: the document's words, and in brackets the case. */
    void sentence(String words) {
        sentence = " '" + words + "'";
    }

    void due(String call, long got, long want) {
        if (got != want) {
            wrong(call + " answered " + got + ", due is " + want);
        }
    }

    void due(String call, boolean got, boolean want) {
        due(call, got ? 1 : 0, want ? 1 : 0);
    }

    void wrong(String what) {
        wrong++;
        System.out.println(promise + sentence + ": " + what);
    }

    /** A frame as told() tells it: its page, pins, whether it is dirty, whether it has a mark. */
    void frame(FramePool pool, int f, int page, int pins, int dirty, int mark) {
        due("told(" + f + ", 0)", pool.told(f, 0), page);
        due("told(" + f + ", 1)", pool.told(f, 1), pins);
        due("told(" + f + ", 2)", pool.told(f, 2), dirty);
        due("told(" + f + ", 3)", pool.told(f, 3), mark);
    }

    void empty(FramePool pool, int f) {
        frame(pool, f, -1, 0, 0, 0);
    }

    void counts(FramePool pool, int reads, int writes) {
        due("diskReads()", pool.diskReads(), reads);
        due("diskWrites()", pool.diskWrites(), writes);
    }

    void end() {
        if (wrong != 0) {
            System.out.println(promise + ": " + wrong + " answers are not as due");
            System.exit(1);
        }
    }
}
