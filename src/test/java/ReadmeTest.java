/** The example of README.md answers what README.md says. */
public final class ReadmeTest {
    public static void main(String[] args) {
        MailCharacters mail = new MailCharacters();
        mail.feed(0x59324670, 0x77366B3D, 0, 0, 0);
        Checks.due("end(8)", mail.end(8), 8);
        Checks.dueTape("end(8)", mail, "Y2Fpw6k=");
        Checks.due("uncode(1)", mail.uncode(1), 5);
        Checks.due("read(4)", mail.read(4), 4);
        Checks.dueText("read(4)", mail, 'c', 'a', 'i', 233);
        Checks.due("write(1)", mail.write(1), 4);
        Checks.dueTape("write(1)", mail, "cai\u00e9");
        Checks.due("code(2)", mail.code(2), 6);
        Checks.dueTape("code(2)", mail, "cai=E9");
        Checks.finish();
    }
}
