import java.io.IOException;
import java.lang.reflect.Executable;
import java.lang.reflect.Field;
import java.lang.reflect.Method;
import java.lang.reflect.Modifier;
import java.nio.file.Files;
import java.nio.file.Path;
import java.util.ArrayList;
import java.util.HashSet;
import java.util.List;
import java.util.Set;
import java.util.regex.Matcher;
import java.util.regex.Pattern;

/** What can be seen of LANGUAGE.md's rules, from the class as it is compiled and from its words. */
public final class LanguageTest {
    private static final Due due = new Due();
    private static final Path SOURCE = Path.of("src/main/java/MailRoom.java");
    private static final Pattern COMMENT = Pattern.compile("/\\*.*?\\*/|//[^\n]*", Pattern.DOTALL);
    private static final Pattern BARRED = Pattern.compile(
        "\\b(package|import|throws?|try|catch|synchronized|assert|protected|native|equals|hashCode|toString)\\b|->|::");
    private static final Set<Class<?>> CONSTANTS = Set.of(int.class, long.class, boolean.class, char.class,
        String.class, int[].class, long[].class, char[].class, byte[].class);

    public static void main(String[] args) throws IOException {
        noBarredWord();
        noPrivateNameThatIsPublic();
        List<Class<?>> all = new ArrayList<>(List.of(MailRoom.class.getDeclaredClasses()));
        due.is("at most twelve classes", Math.max(all.size() + 1, 12), 12);
        for (Class<?> inside : all) {
            int shown = inside.getModifiers() & (Modifier.PUBLIC | Modifier.PROTECTED);
            due.is(inside + " is static", Modifier.isStatic(inside.getModifiers()) ? 1 : 0, 1);
            due.is(inside + " is not shown", shown, 0);
        }
        all.add(MailRoom.class);
        for (Class<?> each : all) {
            fields(each);
            parameters(each.getDeclaredMethods());
            parameters(each.getDeclaredConstructors());
        }
        due.end();
    }

    /** Rules 2, 4, 6 */
    private static void noBarredWord() throws IOException {
        String code = COMMENT.matcher(Files.readString(SOURCE)).replaceAll(" ");
        Matcher barred = BARRED.matcher(code);
        while (barred.find()) {
            due.is("'" + barred.group() + "' in " + SOURCE, 1, 0);
        }
    }

    /** Rule 1 */
    private static void noPrivateNameThatIsPublic() {
        Set<String> shown = new HashSet<>();
        for (Method method : MailRoom.class.getMethods()) {
            shown.add(method.getName());
        }
        for (Method method : MailRoom.class.getDeclaredMethods()) {
            boolean hidden = Modifier.isPrivate(method.getModifiers());
            due.is("public and private: " + method, hidden && shown.contains(method.getName()) ? 1 : 0, 0);
        }
    }

    /** Rules 5 and 11 */
    private static void fields(Class<?> each) {
        int own = 0;
        for (Field field : each.getDeclaredFields()) {
            if (!Modifier.isStatic(field.getModifiers())) {
                own++;
            } else {
                due.is("final: " + field, Modifier.isFinal(field.getModifiers()) ? 1 : 0, 1);
                due.is("a constant: " + field, CONSTANTS.contains(field.getType()) ? 1 : 0, 1);
            }
        }
        due.is("at most twenty fields: " + each, Math.max(own, 20), 20);
    }

    /** Rule 11 */
    private static void parameters(Executable[] all) {
        for (Executable each : all) {
            due.is("at most seven parameters: " + each, Math.max(each.getParameterCount(), 7), 7);
        }
    }
}
