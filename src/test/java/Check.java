/** Counts the answers that are as due and prints those that are not. */
final class Check {
    private static int passed = 0;
    private static int failed = 0;

    private Check() {
    }

    static void same(String call, long got, long due) {
        note(got == due, call + " answered " + got + ", due is " + due);
    }

    static void same(String call, double got, double due) {
        note(Double.compare(got, due) == 0, call + " answered " + got + ", due is " + due);
    }

    static void same(String call, String got, String due) {
        note(got.equals(due), call + " answered " + got + ", due is " + due);
    }

    static void yes(String what, boolean holds) {
        note(holds, what + " does not hold");
    }

    static void outside(String call, Runnable code) {
        throwing(call, IndexOutOfBoundsException.class, code);
    }

    static void illegal(String call, Runnable code) {
        throwing(call, IllegalArgumentException.class, code);
    }

    static void unfit(String call, Runnable code) {
        throwing(call, IllegalStateException.class, code);
    }

    static void throwing(String call, Class<? extends RuntimeException> due, Runnable code) {
        Class<?> got = null;
        try {
            code.run();
        } catch (RuntimeException e) {
            got = e.getClass();
        }
        note(got == due, call + " threw " + got + ", due is " + due);
    }

    static int passed() {
        return passed;
    }

    static int failed() {
        return failed;
    }

    private static void note(boolean good, String fault) {
        if (good) {
            passed++;
        } else {
            failed++;
            String sentence = Sentence.latest();
            System.out.println("FAULT " + fault + (sentence.isEmpty() ? "" : " [" + sentence + "]"));
        }
    }
}
