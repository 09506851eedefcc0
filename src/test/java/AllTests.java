/** Runs every test of the project and ends with exit code 1 if a check fails. */
public final class AllTests {
    private AllTests() {
    }

    public static void main(String[] args) throws Exception {
        Checks checks = new Checks();
        new PromiseTests(checks).run();
        new DefinitionTests(checks).run();
        new TermBoundaryTests(checks).run();
        new OrderBoundaryTests(checks).run();
        new ClassBoundaryTests(checks).run();
        new NumberBoundaryTests(checks).run();
        new ShelfBoundaryTests(checks).run();
        new RefusalTests(checks).run();
        new RunTests(checks).run();
        new EdgeTests(checks).run();
        new ReadmeTests(checks).run();
        new RoomTests(checks).run();
        new LanguageTests(checks).run();
        System.out.println("checks: " + checks.passed() + " passed, " + checks.failed() + " failed");
        if (checks.failed() != 0 || checks.passed() == 0) {
            System.exit(1);
        }
    }
}
