import java.lang.reflect.Constructor;
import java.lang.reflect.Field;
import java.lang.reflect.Method;
import java.lang.reflect.Modifier;
import java.util.Arrays;
import java.util.Set;
import java.util.TreeSet;
import java.util.stream.Collectors;

/** The public face, and promise 1: a new object has no tape and no text. */
public final class FaceTest {
    public static void main(String[] args) {
        face();
        newObject();
        objectsAreApart();
        Checks.finish();
    }

    private static void face() {
        Class<MailCharacters> c = MailCharacters.class;
        Checks.due("class", Modifier.toString(c.getModifiers()), "public final");
        Set<String> members = new TreeSet<>();
        for (Field f : c.getDeclaredFields()) {
            if (!Modifier.isPrivate(f.getModifiers())) {
                members.add(f.toGenericString());
            }
        }
        for (Method m : c.getDeclaredMethods()) {
            if (!Modifier.isPrivate(m.getModifiers())) {
                members.add(m.toGenericString());
            }
        }
        for (Constructor<?> k : c.getDeclaredConstructors()) {
            members.add(k.toGenericString());
        }
        Set<String> due = new TreeSet<>(Arrays.asList(
                "public static final int MailCharacters.NONE",
                "public MailCharacters()",
                "public void MailCharacters.feed(int,int,int,int,int)",
                "public int MailCharacters.end(int)",
                "public int MailCharacters.charset()",
                "public int MailCharacters.uncode(int) throws java.lang.IllegalArgumentException",
                "public int MailCharacters.read(int) throws java.lang.IllegalArgumentException",
                "public int MailCharacters.words()",
                "public int MailCharacters.write(int) throws java.lang.IllegalArgumentException",
                "public int MailCharacters.code(int) throws java.lang.IllegalArgumentException,"
                        + "java.lang.IllegalStateException",
                "public int MailCharacters.byteAt(int)",
                "public int MailCharacters.at(int)",
                "public int MailCharacters.count(int)"));
        Checks.due("members", members.stream().collect(Collectors.joining("\n")),
                due.stream().collect(Collectors.joining("\n")));
        Checks.due("NONE", MailCharacters.NONE, -1);
    }

    private static void newObject() {
        MailCharacters x = new MailCharacters();
        for (int what = 0; what < 3; what++) {
            Checks.due("new: count(" + what + ")", x.count(what), 0);
        }
        Checks.due("new: byteAt(0)", x.byteAt(0), -1);
        Checks.due("new: at(0)", x.at(0), -1);
        Checks.due("new: charset()", new MailCharacters().charset(), -1);
        Checks.due("new: words()", new MailCharacters().words(), 0);
        for (int coding = 0; coding < 4; coding++) {
            Checks.due("new: uncode(" + coding + ")", new MailCharacters().uncode(coding), 0);
        }
        Checks.due("new: code(1)", new MailCharacters().code(1), 0);
        Checks.due("new: code(2)", new MailCharacters().code(2), 0);
        for (int charset = 0; charset < 10; charset++) {
            Checks.due("new: read(" + charset + ")", new MailCharacters().read(charset), 0);
            Checks.due("new: write(" + charset + ")", new MailCharacters().write(charset), charset == 5 ? 2 : 0);
        }
        Checks.due("new: end(20)", x.end(20), 20);
        Checks.dueRow("new: ready bytes", Checks.tape(x), new int[20]);
    }

    private static void objectsAreApart() {
        MailCharacters one = Checks.withText("abc");
        MailCharacters other = Checks.withText("xy");
        Checks.add(other, "z");
        Checks.due("one's text", Checks.textString(one), "abc");
        Checks.due("one's tape", one.count(0), 0);
        Checks.due("other's text", Checks.textString(other), "xy");
        Checks.due("other's tape", Checks.tapeString(other), "z");
    }
}
