public final class AllTests {
    private AllTests() {
    }

    public static void main(String[] args) {
        FaceTests.run();
        RuleTests.run();
        ReadmeTests.run();
        TraderAndOrderTests.run();
        ValueTests.run();
        WhatIfTests.run();
        CommandTests.run();
        TermEdges.run();
        TextEdges.run();
        UndoEdges.run();
        PromiseEdges.run();
        ModelTests.run();
        if (!Check.close()) {
            System.exit(1);
        }
    }
}
