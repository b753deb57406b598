/** Counts the tests of one program and tells of each answer that is not the one that is due. */
final class Checks {
    private int passed;
    private int failed;
    private boolean good;
    private String current;

    void test(String name, Runnable body) {
        current = name;
        good = true;
        try {
            body.run();
        } catch (RuntimeException | Error fault) {
            fail("stopped by " + fault);
            fault.printStackTrace(System.out);
        }
        if (good) {
            passed++;
        } else {
            failed++;
        }
    }

    /** A test that is a run of calls, one a row: see Script. */
    void script(String name, String... rows) {
        test(name, () -> new Script(this).play(rows));
    }

    void due(String what, long got, long want) {
        if (got != want) {
            fail(what + " answered " + got + ", due is " + want);
        }
    }

    void fail(String why) {
        good = false;
        System.out.println(current + ": " + why);
    }

    boolean isGood() {
        return good;
    }

    void end() {
        System.out.println(passed + " passed, " + failed + " failed");
        if (failed != 0 || passed == 0) {
            System.exit(1);
        }
    }
}
