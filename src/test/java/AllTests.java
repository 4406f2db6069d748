/** Runs every test of the project, from its root; the exit code is 1 if one fails. */
public final class AllTests {
    private static final String SOURCE = "src/main/java/ColdChain.java";
    private static final String TESTS = "src/test/java";
    private static final String README = "README.md";
    private static final String DOCUMENT = "../shared/DOC.md";

    private AllTests() {
    }

    public static void main(String[] arguments) throws Exception {
        VanTests.run();
        PalletTests.run();
        ScriptTests.run();
        LookingTests.run();
        UndoTests.run();
        VanEdges.run();
        ProbeEdges.run();
        PalletEdges.run();
        DetourEdges.run();
        ScriptEdges.run();
        LookEdges.run();
        UndoEdges.run();
        ErrorEdges.run();
        EachEdges.run();
        SentenceTests.run(DOCUMENT);
        ReadmeTests.run(README, DOCUMENT, TESTS);
        ModelTests.run();
        RuleTests.run(SOURCE, DOCUMENT);
        System.exit(Checks.close());
    }
}
