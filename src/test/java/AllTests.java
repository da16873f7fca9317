/** Runs every test; the arguments: the program's source, and README.md; exit code 1 if an answer was not as due. */
public final class AllTests {
    private static final long LONGEST_MILLIS = 600_000;

    private AllTests() {
    }

    public static void main(String[] args) throws Exception {
        endsAtLast();
        FaceTest.tests();
        LanguageTest.tests(args[0]);
        ReadmeTest.tests(args[1]);
        RulesTest.tests();
        LinenTest.tests();
        WeeksTest.tests();
        BestTest.tests();
        ToldWearTest.tests();
        LotTest.tests();
        HostTest.tests();
        FaultTest.tests();
        LinenBoundsTest.tests();
        CallsBoundsTest.tests();
        RefusalTest.tests();
        EdgesTest.tests();
        ModelTest.tests();
        System.out.println(Tally.line());
        if (Tally.failed() > 0) {
            System.exit(1);
        }
    }

    /** A call that fails to end fails the tests, too. */
    private static void endsAtLast() {
        Thread watch = new Thread(() -> {
            try {
                Thread.sleep(LONGEST_MILLIS);
            } catch (InterruptedException e) {
                return;
            }
            System.out.println("a call does not end");
            Runtime.getRuntime().halt(1);
        });
        watch.setDaemon(true);
        watch.start();
    }
}
