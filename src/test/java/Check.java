/** Counts the checks of one test, prints those that fail, and tells the sum at the end. */
final class Check {
    private final String name;
    private final boolean prints;
    private int passed = 0;
    private int failed = 0;

    Check(String name) {
        this(name, true);
    }

    Check(String name, boolean prints) {
        this.name = name;
        this.prints = prints;
    }

    void due(String call, long got, long want) {
        isTrue(call + " answered " + got + ", due is " + want, got == want);
    }

    void isTrue(String words, boolean is) {
        if (is) {
            passed++;
            return;
        }
        failed++;
        if (prints) {
            System.out.println(name + ": " + words);
        }
    }

    int passes() {
        return passed;
    }

    int failures() {
        return failed;
    }

    void end() {
        System.out.println(name + ": " + passed + " passed, " + failed + " failed");
        if (failed > 0 || passed == 0) {
            System.exit(1);
        }
    }
}
