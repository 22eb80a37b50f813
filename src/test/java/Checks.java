import java.util.function.Consumer;

/** Counts tests; a test fails if one of its answers is not the one that is due, or if it throws. */
final class Checks {
    private int passed;
    private int failed;
    private int wrong;
    private String name = "";

    void test(String testName, Consumer<Checks> test) {
        name = testName;
        wrong = 0;
        try {
            test.accept(this);
        } catch (RuntimeException thrown) {
            tell("threw " + thrown);
        }
        if (wrong == 0) {
            passed++;
        } else {
            failed++;
        }
    }

    void due(String call, long got, long want) {
        if (got != want) {
            tell(call + " answered " + got + ", due is " + want);
        }
    }

    void dueDouble(String call, double got, double want) {
        if (Double.compare(got, want) != 0) {
            tell(call + " answered " + got + ", due is " + want);
        }
    }

    void tell(String what) {
        wrong++;
        // A broken search would otherwise fill the screen.
        if (wrong <= 10) {
            System.out.println(name + ": " + what);
        }
    }

    boolean isFine() {
        return wrong == 0;
    }

    boolean close() {
        System.out.println(passed + " passed, " + failed + " failed");
        return failed == 0;
    }
}
