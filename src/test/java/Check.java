/** Counts the calls whose answer is not the one that is due, and prints each of them. */
final class Check {
    interface Answer {
        long give();
    }

    interface Deed {
        void run();
    }

    private static int wrong = 0;
    private static int checked = 0;

    private Check() {
    }

    static void answers(String call, long due, Answer answer) {
        checked++;
        String got;
        try {
            got = Long.toString(answer.give());
        } catch (RuntimeException e) {
            got = "throws " + e.getClass().getName();
        }
        compare(call, Long.toString(due), got);
    }

    static void passes(String call, Deed deed) {
        checked++;
        compare(call, "nothing thrown", outcome(deed));
    }

    static void argument(String call, Deed deed) {
        checked++;
        compare(call, "throws java.lang.IllegalArgumentException", outcome(deed));
    }

    static void state(String call, Deed deed) {
        checked++;
        compare(call, "throws java.lang.IllegalStateException", outcome(deed));
    }

    static void holds(String what, boolean so) {
        checked++;
        compare(what, "true", Boolean.toString(so));
    }

    static void same(String what, String due, String got) {
        checked++;
        compare(what, due, got);
    }

    static void end() {
        System.out.println(checked + " checks, " + wrong + " wrong");
        if (wrong != 0 || checked == 0) {
            System.exit(1);
        }
    }

    private static String outcome(Deed deed) {
        try {
            deed.run();
            return "nothing thrown";
        } catch (RuntimeException e) {
            return "throws " + e.getClass().getName();
        }
    }

    private static void compare(String call, String due, String got) {
        if (!due.equals(got)) {
            wrong++;
            System.out.println(call + ": " + got + ", due is " + due);
        }
    }
}
