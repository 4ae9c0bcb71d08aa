import java.lang.reflect.Constructor;
import java.lang.reflect.Field;
import java.lang.reflect.Member;
import java.lang.reflect.Method;
import java.lang.reflect.Modifier;
import java.util.Set;
import java.util.TreeSet;

/** The public face: the constants, and no member beside the document's that others can see. */
public final class FaceTest {
    private static final Due due = new Due();

    public static void main(String[] args) {
        due.is("NONE", MailRoom.NONE, -1);
        due.is("UNKNOWN", MailRoom.UNKNOWN, -2);
        due.is("OUTSIDE", MailRoom.OUTSIDE, -3);
        due.is("FULL_UP", MailRoom.FULL_UP, -4);
        Set<String> want = Set.of(
            "public static final int MailRoom.NONE", "public static final int MailRoom.UNKNOWN",
            "public static final int MailRoom.OUTSIDE", "public static final int MailRoom.FULL_UP",
            "public MailRoom()", "public int MailRoom.handle(int,int,int,int,long)", "public int MailRoom.drop(int)",
            "public int MailRoom.has(int)", "public int MailRoom.post(int,long)", "public int MailRoom.take(int)",
            "public int MailRoom.give(int,long)", "public long MailRoom.sum(int)", "public int MailRoom.counted(int)",
            "public int MailRoom.failed(int,int)", "public long MailRoom.value(int)", "public int MailRoom.count(int)");
        Set<String> got = seenFromOutside();
        for (String member : want) {
            due.is(member, got.contains(member) ? 1 : 0, 1);
        }
        for (String member : got) {
            due.is(member, want.contains(member) ? 1 : 0, 1);
        }
        due.is("the class is public and final", MailRoom.class.getModifiers(), Modifier.PUBLIC | Modifier.FINAL);
        due.end();
    }

    private static Set<String> seenFromOutside() {
        Set<String> seen = new TreeSet<>();
        for (Field field : MailRoom.class.getDeclaredFields()) {
            add(seen, field, field.toString());
        }
        for (Constructor<?> made : MailRoom.class.getDeclaredConstructors()) {
            add(seen, made, made.toString());
        }
        for (Method method : MailRoom.class.getDeclaredMethods()) {
            add(seen, method, method.toString());
        }
        return seen;
    }

    private static void add(Set<String> seen, Member member, String text) {
        if (!Modifier.isPrivate(member.getModifiers())) {
            seen.add(text);
        }
    }
}
