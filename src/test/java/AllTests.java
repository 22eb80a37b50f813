/** Runs every test of the project; the exit code is 1 if one fails. */
public final class AllTests {
    private AllTests() {
    }

    public static void main(String[] args) {
        Checks checks = new Checks();
        FaceTests.all(checks);
        LanguageTests.all(checks);
        LanguageTreeTests.all(checks);
        ReadmeTests.all(checks);
        CityTests.all(checks);
        LineTests.all(checks);
        TextTests.all(checks);
        LookTests.all(checks);
        WouldBeTests.all(checks);
        HistoryTests.all(checks);
        CityEdgeTests.all(checks);
        LineEdgeTests.all(checks);
        TextEdgeTests.all(checks);
        LookEdgeTests.all(checks);
        WayEdgeTests.all(checks);
        WouldBeEdgeTests.all(checks);
        HistoryEdgeTests.all(checks);
        NothingChangedTests.all(checks);
        ModelTests.all(checks);
        if (!checks.close()) {
            System.exit(1);
        }
    }
}
