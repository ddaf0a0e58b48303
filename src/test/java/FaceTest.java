import java.lang.reflect.Constructor;
import java.lang.reflect.Field;
import java.lang.reflect.Method;
import java.lang.reflect.Modifier;
import java.util.Arrays;
import java.util.Set;
import java.util.TreeSet;

/** The public face is the document's, and no more. */
public final class FaceTest {
    public static void main(String[] args) {
        Set<String> want = new TreeSet<>(Arrays.asList(
                "public static final int AdvanceBook.NONE",
                "public AdvanceBook()",
                "public int AdvanceBook.feed(int,int,int,int,int)",
                "public int AdvanceBook.man(int)",
                "public int AdvanceBook.paper(int,int,int,int)",
                "public int AdvanceBook.look(int,int) throws java.lang.IndexOutOfBoundsException,"
                        + "java.util.NoSuchElementException",
                "public int AdvanceBook.pass(int)",
                "public int AdvanceBook.purse(int)",
                "public int AdvanceBook.net(int)",
                "public int AdvanceBook.thread()",
                "public int AdvanceBook.move(int,int)",
                "public int AdvanceBook.boat(int,int,int,int)",
                "public boolean AdvanceBook.heir(int,int)",
                "public int AdvanceBook.decree(int)",
                "public int AdvanceBook.fault(int)",
                "public int AdvanceBook.clear(boolean)",
                "public int AdvanceBook.cleared(int,int)",
                "public int AdvanceBook.enact()",
                "public int AdvanceBook.end()",
                "public int AdvanceBook.count(int)"));
        Set<String> got = new TreeSet<>();
        for (Field field : AdvanceBook.class.getDeclaredFields()) {
            addIfSeen(got, field.getModifiers(), field.toString());
        }
        for (Constructor<?> constructor : AdvanceBook.class.getDeclaredConstructors()) {
            addIfSeen(got, constructor.getModifiers(), constructor.toString());
        }
        for (Method method : AdvanceBook.class.getDeclaredMethods()) {
            addIfSeen(got, method.getModifiers(), method.toString());
        }
        for (String member : want) {
            Due.due("has " + member, true, got.contains(member));
        }
        for (String member : got) {
            Due.due("may have " + member, true, want.contains(member));
        }
        Due.due("final class", true, Modifier.isFinal(AdvanceBook.class.getModifiers()));
        Due.due("public class", true, Modifier.isPublic(AdvanceBook.class.getModifiers()));
        Due.due("NONE", -1, AdvanceBook.NONE);
        Due.finish("FaceTest");
    }

    private static void addIfSeen(Set<String> got, int modifiers, String member) {
        if (!Modifier.isPrivate(modifiers)) {
            got.add(member);
        }
    }
}
