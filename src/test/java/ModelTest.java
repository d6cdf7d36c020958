import java.util.ArrayList;
import java.util.HashMap;
import java.util.List;
import java.util.Map;
import java.util.Random;

/** All promises at once: long runs of calls, held against a model that is written another way. */
public final class ModelTest {
    private static final int RUNS = 3000;
    // Behind its 512th call an object's answers are free.
    private static final int CALLS = 512;
    private static final Check CHECK = new Check("the model");

    /** The document read once more: a frame's page is an object that is there or is not. */
    private static final class Model {
        private static final class Held {
            int page;
            int pins;
            boolean dirty;
            boolean mark;
            int[] words;
        }

        final int frames;
        final int pages;
        final int words;
        final List<Held> held = new ArrayList<>();
        final Map<Integer, int[]> disk = new HashMap<>();
        int hand;
        int reads;
        int writes;

        Model(int frames, int pages, int words) {
            this.frames = frames < 1 ? 1 : frames > 32 ? 32 : frames;
            this.pages = pages < 1 ? 1 : pages > 200 ? 200 : pages;
            this.words = words < 1 ? 1 : words > 8 ? 8 : words;
            init();
        }

        void init() {
            held.clear();
            for (int f = 0; f < frames; f++) {
                held.add(null);
            }
            disk.clear();
            for (int page = 0; page < pages; page++) {
                disk.put(page, new int[words]);
            }
            hand = 0;
            reads = 0;
            writes = 0;
        }

        int where(int page) {
            for (int f = 0; f < frames; f++) {
                if (held.get(f) != null && held.get(f).page == page) {
                    return f;
                }
            }
            return -1;
        }

        Held pinnedAt(int f) {
            Held h = f < 0 || f >= frames ? null : held.get(f);
            return h == null || h.pins == 0 ? null : h;
        }

        void write(Held h) {
            disk.put(h.page, h.words.clone());
            h.dirty = false;
            writes++;
        }

        int find() {
            while (true) {
                int f = hand;
                hand = (hand + 1) % frames;
                Held h = held.get(f);
                if (h == null) {
                    return f;
                }
                if (h.pins == 0 && !h.mark) {
                    if (h.dirty) {
                        write(h);
                    }
                    held.set(f, null);
                    return f;
                }
                if (h.pins == 0) {
                    h.mark = false;
                }
            }
        }

        int fetch(int page) {
            if (!disk.containsKey(page)) {
                return -2;
            }
            int f = where(page);
            if (f < 0) {
                if (pinned() == frames) {
                    return -1;
                }
                f = find();
                Held h = new Held();
                h.page = page;
                h.words = disk.get(page).clone();
                held.set(f, h);
                reads++;
            }
            held.get(f).pins++;
            held.get(f).mark = true;
            return f;
        }

        int unpin(int f) {
            Held h = pinnedAt(f);
            return h == null ? -3 : --h.pins;
        }

        int readWord(int f, int off) {
            Held h = pinnedAt(f);
            return h == null || off < 0 || off >= words ? 0 : h.words[off];
        }

        int writeWord(int f, int off, int w) {
            Held h = pinnedAt(f);
            if (h == null) {
                return -3;
            }
            if (off < 0 || off >= words) {
                return -4;
            }
            h.words[off] = w;
            h.dirty = true;
            return 0;
        }

        int flush(int page) {
            int f = where(page);
            if (f < 0 || !held.get(f).dirty) {
                return 0;
            }
            write(held.get(f));
            return 1;
        }

        int flushAll() {
            int count = 0;
            for (int page = 0; page < pages; page++) {
                count += flush(page);
            }
            return count;
        }

        boolean drop(int page) {
            int f = where(page);
            if (f < 0 || held.get(f).pins > 0) {
                return false;
            }
            held.set(f, null);
            return true;
        }

        int copy(int page, int from) {
            if (!disk.containsKey(page) || !disk.containsKey(from)) {
                return -2;
            }
            Held to = pinnedAt(where(page));
            if (to == null) {
                return -3;
            }
            to.words = (where(from) < 0 ? disk.get(from) : held.get(where(from)).words).clone();
            to.dirty = true;
            return 0;
        }

        int diskWord(int page, int off) {
            return !disk.containsKey(page) || off < 0 || off >= words ? 0 : disk.get(page)[off];
        }

        int told(int f, int what) {
            if (f < 0 || f >= frames || what < 0 || what > 3) {
                return -5;
            }
            Held h = held.get(f);
            if (h == null) {
                return what == 0 ? -1 : 0;
            }
            return what == 0 ? h.page : what == 1 ? h.pins : (what == 2 ? h.dirty : h.mark) ? 1 : 0;
        }

        int pinned() {
            int count = 0;
            for (int f = 0; f < frames; f++) {
                count += pinnedAt(f) == null ? 0 : 1;
            }
            return count;
        }
    }

    public static void main(String[] args) {
        for (int run = 0; run < RUNS; run++) {
            oneRun(run);
        }
        CHECK.end();
    }

    private static void oneRun(int run) {
        Random random = new Random(run);
        boolean small = run % 3 != 0;
        int frames = random.nextInt(small ? 6 : 40) - 1;
        int pages = random.nextInt(small ? 12 : 240) - 1;
        int words = random.nextInt(small ? 4 : 12) - 1;
        FramePool pool = new FramePool(frames, pages, words);
        Model model = new Model(frames, pages, words);
        for (int call = 0; call < CALLS; call++) {
            String at = "run " + run + " call " + call + ": ";
            if (random.nextInt(5) < 3) {
                change(random, pool, model, at);
            } else {
                look(random, pool, model, at);
            }
        }
    }

    private static void change(Random random, FramePool pool, Model model, String at) {
        int page = number(random, model.pages);
        int from = number(random, model.pages);
        int f = number(random, model.frames);
        int off = number(random, model.words);
        int w = random.nextInt();
        int kind = random.nextInt(200);
        if (kind < 66) {
            CHECK.due(at + "fetch(" + page + ")", pool.fetch(page), model.fetch(page));
        } else if (kind < 128) {
            CHECK.due(at + "unpin(" + f + ")", pool.unpin(f), model.unpin(f));
        } else if (kind < 164) {
            CHECK.due(at + "writeWord(" + f + ", " + off + ", " + w + ")",
                pool.writeWord(f, off, w), model.writeWord(f, off, w));
        } else if (kind < 172) {
            CHECK.due(at + "flush(" + page + ")", pool.flush(page), model.flush(page));
        } else if (kind < 174) {
            CHECK.due(at + "flushAll()", pool.flushAll(), model.flushAll());
        } else if (kind < 182) {
            CHECK.due(at + "drop(" + page + ")", pool.drop(page), model.drop(page));
        } else if (kind < 199) {
            CHECK.due(at + "copy(" + page + ", " + from + ")", pool.copy(page, from), model.copy(page, from));
        } else {
            pool.init();
            model.init();
        }
    }

    private static void look(Random random, FramePool pool, Model model, String at) {
        int page = number(random, model.pages);
        int f = number(random, model.frames);
        int off = number(random, model.words);
        int what = number(random, 4);
        int kind = random.nextInt(20);
        if (kind < 5) {
            CHECK.due(at + "readWord(" + f + ", " + off + ")", pool.readWord(f, off), model.readWord(f, off));
        } else if (kind < 9) {
            CHECK.due(at + "diskWord(" + page + ", " + off + ")", pool.diskWord(page, off), model.diskWord(page, off));
        } else if (kind < 11) {
            CHECK.due(at + "resident(" + page + ")", pool.resident(page), model.where(page) >= 0);
        } else if (kind < 16) {
            CHECK.due(at + "told(" + f + ", " + what + ")", pool.told(f, what), model.told(f, what));
        } else if (kind < 17) {
            CHECK.due(at + "hand()", pool.hand(), model.hand);
        } else if (kind < 18) {
            CHECK.due(at + "pinned()", pool.pinned(), model.pinned());
        } else if (kind < 19) {
            CHECK.due(at + "diskReads()", pool.diskReads(), model.reads);
        } else {
            CHECK.due(at + "diskWrites()", pool.diskWrites(), model.writes);
        }
    }

    private static int number(Random random, int count) {
        int kind = random.nextInt(40);
        if (kind == 0) {
            return Check.FAR_OFF[random.nextInt(Check.FAR_OFF.length)];
        }
        return kind == 1 ? count : random.nextInt(count);
    }
}
