import java.io.IOException;

/** Every sentence of the document, each with a test of its own: ordinary inputs, its edges, and wrong ones. */
public final class SentencesTest {
    private SentencesTest() {
    }

    public static void main(String[] args) throws IOException {
        Checks checks = new Checks();
        Section[] sections = {
            new OutsideSection(checks), new StepSection(checks), new InstructionSection(checks),
            new ControlSection(checks), new SystemSection(checks), new GuestAccessSection(checks),
            new TranslationSection(checks), new TrapSection(checks), new InterruptSection(checks),
        };
        for (Section section : sections) {
            section.run();
        }
        if (Document.isThere()) {
            compare(checks, Document.read());
        } else {
            System.out.println("there is no document beside the project to compare the quotes with");
        }
        checks.finish();
    }

    private static void compare(Checks checks, Document document) {
        for (String saying : checks.sayings().toArray(new String[0])) {
            checks.due("that the document says \"" + saying + "\"", document.quote(saying) > 0 ? 1 : 0, 1);
        }
        for (String run : document.unquoted()) {
            checks.due("that a test quotes \"" + run + "\"", 0, 1);
        }
    }
}
