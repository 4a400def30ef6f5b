/** Every test of the project. */
public final class AllTests {
    private AllTests() {
    }

    public static void main(String[] args) {
        Checks checks = new Checks();
        ReadmeTests.all(checks);
        FaceTests.all(checks);
        TermsTests.all(checks);
        ScheduleTests.all(checks);
        MakingTests.all(checks);
        HappeningTests.all(checks);
        TellingTests.all(checks);
        ListeningTests.all(checks);
        ResponseTests.all(checks);
        SleepTests.all(checks);
        RefusalTests.all(checks);
        ModelTests.all(checks);
        if (!checks.close()) {
            System.exit(1);
        }
    }
}
