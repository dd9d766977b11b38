/** Runs every test of the project; exit code 1 if an answer is not the one that is due. */
public final class AllTests {
    public static void main(String[] args) {
        Checks checks = new Checks();
        ChangesTest.run(checks);
        DaysTest.run(checks);
        TextsTest.run(checks);
        UndoTest.run(checks);
        LooksTest.run(checks);
        WouldBeTest.run(checks);
        DayBoundsTest.run(checks);
        GiftBoundsTest.run(checks);
        TermsBoundsTest.run(checks);
        ArgumentBoundsTest.run(checks);
        SavedBoundsTest.run(checks);
        TextBoundsTest.run(checks);
        WouldBeBoundsTest.run(checks);
        ReadmeTest.run(checks);
        LanguageTest.run(checks);
        RandomRunsTest.run(checks);
        System.out.println(checks.made() + " checks, " + checks.wrong() + " wrong");
        if (checks.wrong() != 0) {
            System.exit(1);
        }
    }
}
