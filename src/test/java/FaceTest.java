import java.lang.reflect.Constructor;
import java.lang.reflect.Field;
import java.lang.reflect.Method;
import java.lang.reflect.Modifier;
import java.util.Set;
import java.util.TreeSet;

/** The public face: what the document names, and no other member that is not private. */
public final class FaceTest {
    private static final Set<String> FACE = Set.of(
        "public static final int ALL_PINNED", "public static final int BAD_PAGE",
        "public static final int NOT_PINNED", "public static final int BAD_OFFSET",
        "public FramePool(int,int,int)", "public void init()", "public int fetch(int)",
        "public int unpin(int)", "public int readWord(int,int)", "public int writeWord(int,int,int)",
        "public int flush(int)", "public int flushAll()", "public boolean drop(int)",
        "public int copy(int,int)", "public int diskWord(int,int)", "public boolean resident(int)",
        "public int diskReads()", "public int diskWrites()", "public int told(int,int)",
        "public int hand()", "public int pinned()");

    public static void main(String[] args) {
        Check check = new Check("the public face");
        check.due("ALL_PINNED", FramePool.ALL_PINNED, -1);
        check.due("BAD_PAGE", FramePool.BAD_PAGE, -2);
        check.due("NOT_PINNED", FramePool.NOT_PINNED, -3);
        check.due("BAD_OFFSET", FramePool.BAD_OFFSET, -4);
        check.due("the class is public", Modifier.isPublic(FramePool.class.getModifiers()), true);
        check.due("the class is final", Modifier.isFinal(FramePool.class.getModifiers()), true);
        Set<String> seen = seenMembers();
        for (String member : FACE) {
            check.due("there is " + member, seen.contains(member), true);
        }
        for (String member : seen) {
            check.due("the document has " + member, FACE.contains(member), true);
        }
        check.end();
    }

    private static Set<String> seenMembers() {
        Set<String> seen = new TreeSet<>();
        for (Field field : FramePool.class.getDeclaredFields()) {
            add(seen, field.getModifiers(), field.toString());
        }
        for (Constructor<?> constructor : FramePool.class.getDeclaredConstructors()) {
            add(seen, constructor.getModifiers(), constructor.toString());
        }
        for (Method method : FramePool.class.getDeclaredMethods()) {
            add(seen, method.getModifiers(), method.toString());
        }
        return seen;
    }

    private static void add(Set<String> seen, int modifiers, String member) {
        if (!Modifier.isPrivate(modifiers)) {
            seen.add(member.replace("FramePool.", ""));
        }
    }
}
