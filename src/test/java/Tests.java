import java.util.Objects;

/** Counts what is as it is due, and prints what is not. */
final class Tests {
    private int passed = 0;
    private int failed = 0;

    void same(String what, Object got, Object want) {
        if (Objects.equals(got, want)) {
            passed++;
        } else {
            failed++;
            System.out.println("FAILED: " + what + ": " + got + ", due is " + want);
        }
    }

    /** A call is to throw just this, and to change nothing that can be asked. */
    void refuses(Sortpocket object, Class<? extends RuntimeException> due, String name, Object... args) {
        Caller caller = new Caller(object);
        String before = caller.view();
        String what = name + java.util.Arrays.toString(args);
        same(what, caller.call(name, args), "throws." + due.getSimpleName());
        same("nothing is changed by " + what, caller.view().equals(before), true);
    }

    int failed() {
        return failed;
    }

    void printTotals() {
        System.out.println(passed + " passed, " + failed + " failed");
    }
}
