/** Runs every test of the project; the argument is the program's source; exit code 1 if an answer was not as due. */
public final class AllTests {
    private AllTests() {
    }

    public static void main(String[] args) throws Exception {
        FaceTest.tests();
        LanguageTest.tests(args[0]);
        RulesTest.tests();
        LinenTest.tests();
        WeeksTest.tests();
        BestTest.tests();
        ToldWearTest.tests();
        LotTest.tests();
        HostTest.tests();
        EdgesTest.tests();
        ModelTest.tests();
        System.out.println(Tally.line());
        if (Tally.failed() > 0) {
            System.exit(1);
        }
    }
}
