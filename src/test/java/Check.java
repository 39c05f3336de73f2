import java.util.List;

/** Compares answers with those that are due, and ends a test. */
final class Check {
    private static int compared = 0;
    private static int wrong = 0;

    private Check() {
    }

    static void equal(String what, long got, long due) {
        compared++;
        if (got != due) {
            wrong++;
            // An exhaustive test that goes wrong would print for minutes.
            if (wrong <= 20) {
                System.out.println(what + " answered " + got + ", due is " + due);
            }
        }
    }

    static void equal(String what, boolean got, boolean due) {
        equal(what, got ? 1 : 0, due ? 1 : 0);
    }

    static void refuses(String what, Class<? extends RuntimeException> due, Runnable call) {
        RuntimeException got = null;
        try {
            call.run();
        } catch (RuntimeException e) {
            got = e;
        }
        equal(what + " throws " + due.getSimpleName(), got != null && got.getClass() == due, true);
    }

    static void refusesIndex(String what, Runnable call) {
        refuses(what, IndexOutOfBoundsException.class, call);
    }

    /** Compares rows of answers, and tells the first place where they are not the same. */
    static void same(String what, List<Integer> got, List<Integer> due) {
        equal("number of answers: " + what, got.size(), due.size());
        int i = 0;
        while (i < due.size() && i < got.size() && got.get(i).equals(due.get(i))) {
            i++;
        }
        equal("first other answer: " + what, i, due.size());
    }

    static void end() {
        System.out.println(compared + " answers compared, " + wrong + " not as due");
        if (wrong != 0 || compared == 0) {
            System.exit(1);
        }
    }
}
