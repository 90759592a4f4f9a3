/** What the tests share: comparing answers with what is due, and telling at the end whether all were right. */
final class Check {
    interface Call {
        long answer();
    }

    interface Act {
        void run();
    }

    private static int wrong = 0;
    private static int looked = 0;

    private Check() {
    }

    static void same(String what, long due, long got) {
        looked++;
        if (due != got) {
            wrong++;
            System.out.println(what + ": " + got + ", due is " + due);
        }
    }

    static void same(String what, String due, String got) {
        looked++;
        if (!due.equals(got)) {
            wrong++;
            System.out.println(what + ": " + got + ", due is " + due);
        }
    }

    static void outOfBounds(String what, Act act) {
        same(what, "IndexOutOfBoundsException", outcome(act));
    }

    static void badState(String what, Act act) {
        same(what, "IllegalStateException", outcome(act));
    }

    private static String outcome(Act act) {
        return outcome(() -> {
            act.run();
            return 0;
        });
    }

    /** The answer as a text, or the exact class of what was thrown. */
    static String outcome(Call call) {
        try {
            return Long.toString(call.answer());
        } catch (RuntimeException thrown) {
            return thrown.getClass().getSimpleName();
        }
    }

    static void end() {
        System.out.println(looked + " looked at, " + wrong + " wrong");
        if (wrong != 0 || looked == 0) {
            System.exit(1);
        }
    }
}
