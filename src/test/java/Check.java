/** Counts the checks of one test class, prints those that fail, and tells the sum at the end. */
final class Check {
    private final String name;
    private int passed = 0;
    private int failed = 0;

    Check(String name) {
        this.name = name;
    }

    void due(String call, long got, long want) {
        isTrue(call + " answered " + got + ", due is " + want, got == want);
    }

    void isTrue(String words, boolean is) {
        if (is) {
            passed++;
        } else {
            failed++;
            System.out.println(name + ": " + words);
        }
    }

    int failures() {
        return failed;
    }

    void end() {
        System.out.println(name + ": " + passed + " passed, " + failed + " failed");
        if (failed > 0 || passed == 0) {
            System.exit(1);
        }
    }
}
