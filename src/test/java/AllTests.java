/** Runs every test of the project; ends with exit code 1 if one answer is not as due. */
public final class AllTests {
    private AllTests() {
    }

    public static void main(String[] args) {
        RowTests.run();
        TextTests.run();
        HourTests.run();
        ForetoldTests.run();
        ImageTests.run();
        AskTests.run();
        TermEdges.run();
        RowEdges.run();
        TextEdges.run();
        HourEdges.run();
        ForetoldEdges.run();
        ImageEdges.run();
        AskEdges.run();
        DocumentTests.run();
        LanguageTests.run();
        ReadmeTests.run();
        ModelTests.run();
        System.out.println(Check.summary());
        if (Check.failed() != 0) {
            System.exit(1);
        }
    }
}
