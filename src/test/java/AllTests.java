/** Runs every test of the project; the exit code is 1 if one fails. */
public final class AllTests {
    private AllTests() {
    }

    public static void main(String[] arguments) {
        VanTests.run();
        PalletTests.run();
        ScriptTests.run();
        LookingTests.run();
        UndoTests.run();
        VanEdges.run();
        ProbeEdges.run();
        PalletEdges.run();
        DetourEdges.run();
        ScriptEdges.run();
        LookEdges.run();
        UndoEdges.run();
        ErrorEdges.run();
        SentenceTests.run(arguments.length > 1 ? arguments[1] : "../shared/DOC.md");
        ModelTests.run();
        RuleTests.run(arguments.length > 0 ? arguments[0] : "src/main/java/ColdChain.java");
        System.exit(Checks.close());
    }
}
