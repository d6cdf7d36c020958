import java.util.ArrayList;
import java.util.List;

/** All that the calls of the face tell of an object, so that one can be held against another. */
final class State {
    private State() {
    }

    /** Holds both objects against each other; they are used up by it. */
    static void same(Check check, String where, FramePool got, FramePool want, int frames, int pages, int words) {
        compare(check, where, seen(got, frames, pages, words), seen(want, frames, pages, words));
        compare(check, where + ", later", later(got, frames, pages, words), later(want, frames, pages, words));
    }

    private static void compare(Check check, String where, List<String> got, List<String> want) {
        for (int i = 0; i < Math.max(got.size(), want.size()); i++) {
            String answer = i < got.size() ? got.get(i) : "no call";
            String due = i < want.size() ? want.get(i) : "no call";
            if (!answer.equals(due)) {
                // What differs behind the first difference comes of it.
                check.wrong(where + ": " + answer + ", due is " + due);
                return;
            }
        }
    }

    /** What can be seen by calls that change nothing. */
    private static List<String> seen(FramePool pool, int frames, int pages, int words) {
        List<String> all = new ArrayList<>();
        for (int f = 0; f < frames; f++) {
            for (int what = 0; what < 4; what++) {
                all.add("told(" + f + ", " + what + ") is " + pool.told(f, what));
            }
            addWords(all, pool, f, words);
        }
        for (int page = 0; page < pages; page++) {
            all.add("resident(" + page + ") is " + pool.resident(page));
            for (int off = 0; off < words; off++) {
                all.add("diskWord(" + page + ", " + off + ") is " + pool.diskWord(page, off));
            }
        }
        all.add("hand() is " + pool.hand());
        all.add("pinned() is " + pool.pinned());
        all.add("diskReads() is " + pool.diskReads());
        all.add("diskWrites() is " + pool.diskWrites());
        return all;
    }

    /** What comes to light only when pages without pins are wanted, and when pages have to go. */
    private static List<String> later(FramePool pool, int frames, int pages, int words) {
        List<String> all = new ArrayList<>();
        for (int f = 0; f < frames; f++) {
            if (pool.told(f, 0) >= 0) {
                all.add("fetch(the page of frame " + f + ") is " + pool.fetch(pool.told(f, 0)));
                addWords(all, pool, f, words);
            }
        }
        for (int f = 0; f < frames; f++) {
            for (int pins = pool.told(f, 1); pins > 0; pins--) {
                all.add("unpin(" + f + ") is " + pool.unpin(f));
            }
        }
        for (int page = 0; page < pages; page++) {
            int f = pool.fetch(page);
            all.add("fetch(" + page + ") is " + f);
            addWords(all, pool, f, words);
            all.add("unpin(" + f + ") is " + pool.unpin(f));
            all.add("diskWrites() is " + pool.diskWrites());
        }
        all.addAll(seen(pool, frames, pages, words));
        return all;
    }

    private static void addWords(List<String> all, FramePool pool, int f, int words) {
        for (int off = 0; off < words; off++) {
            all.add("readWord(" + f + ", " + off + ") is " + pool.readWord(f, off));
        }
    }
}
