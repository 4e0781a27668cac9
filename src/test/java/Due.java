/** Counts the answers that are as due, and those that are not, and ends a test with the sum. */
final class Due {
    interface Call {
        Object run() throws Exception;
    }

    private static int passed = 0;
    private static int failed = 0;

    private Due() {
    }

    /** What a call answers, or the simple name of what it throws. */
    static Object answer(Call call) {
        try {
            return call.run();
        } catch (Exception e) {
            return e.getClass().getSimpleName();
        }
    }

    static void is(String what, Call call, Object due) {
        isEqual(what, answer(call), due);
    }

    static void isEqual(String what, Object got, Object due) {
        if (due.equals(got)) {
            passed++;
            return;
        }
        failed++;
        if (failed <= 50) {
            System.out.println(what + " answered " + got + ", due is " + due);
        }
    }

    static void end() {
        System.out.println(passed + " passed, " + failed + " failed");
        if (failed > 0 || passed == 0) {
            System.exit(1);
        }
    }
}
