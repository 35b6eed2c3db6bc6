/**
 * A desk beside its twin: both are made by the same calls, one of them is given one call more, and then both are asked
 * all that can be asked. Where the answers differ the call changed something.
 */
final class Twins {
    /** Calls on a desk. */
    interface Calls {
        void on(ReinsuranceDesk x);
    }

    /** A call with one of its numbers left open. */
    interface Call {
        void on(ReinsuranceDesk x, int value);
    }

    /** A question to a desk. */
    interface Question {
        long to(ReinsuranceDesk x);
    }

    /** Asking goes by pages, each on new twins, so that no desk gets more than the 512 calls it is made for. */
    private static final int PAGES = 5;

    private Twins() {
    }

    /** The call is refused by IllegalArgumentException, and the state is as it was. */
    static void argument(String name, Calls before, Calls call) {
        ends(name, before, call, "IllegalArgumentException");
    }

    /** The call is refused by IllegalStateException, and the state is as it was. */
    static void state(String name, Calls before, Calls call) {
        ends(name, before, call, "IllegalStateException");
    }

    /** The call is taken and changes nothing. */
    static void question(String name, Calls before, Calls call) {
        ends(name, before, call, "nothing thrown");
    }

    /** The call is taken, and afterwards the question has this answer. */
    static void taken(String name, Calls before, Calls call, long due, Question question) {
        ReinsuranceDesk x = made(before);
        Check.same(name, "nothing thrown", outcome(x, call));
        Check.answers(name + ", and then", due, () -> question.to(x));
    }

    /** The least and the greatest are taken; one less, one more and the ends of int are refused. */
    static void range(String name, Calls before, int least, int greatest, Call call) {
        for (int value : new int[] {least, greatest}) {
            Check.same(name + " " + value, "nothing thrown", outcome(made(before), x -> call.on(x, value)));
        }
        for (int value : new int[] {least - 1, greatest + 1, Integer.MIN_VALUE, Integer.MAX_VALUE}) {
            argument(name + " " + value, before, x -> call.on(x, value));
        }
    }

    private static void ends(String name, Calls before, Calls call, String due) {
        for (int page = 0; page < PAGES; page++) {
            ReinsuranceDesk x = made(before);
            Check.same(name, due, outcome(x, call));
            Check.same(name + ", the state on page " + page, answers(made(before), page), answers(x, page));
        }
    }

    private static ReinsuranceDesk made(Calls before) {
        ReinsuranceDesk x = new ReinsuranceDesk();
        before.on(x);
        return x;
    }

    private static String outcome(ReinsuranceDesk x, Calls call) {
        try {
            call.on(x);
            return "nothing thrown";
        } catch (RuntimeException e) {
            return e.getClass().getSimpleName();
        }
    }

    private static String answers(ReinsuranceDesk x, int page) {
        StringBuilder answers = new StringBuilder();
        switch (page) {
            case 0:
                billsAndYears(x, answers);
                break;
            case 1:
                ceded(x, answers, 0, 20);
                break;
            case 2:
                ceded(x, answers, 20, 40);
                break;
            case 3:
                treaties(x, answers);
                break;
            default:
                whatCanBeTold(x, answers);
                break;
        }
        return answers.toString();
    }

    private static void ask(StringBuilder answers, String call, Check.Answer question) {
        String answer;
        try {
            answer = Long.toString(question.give());
        } catch (RuntimeException e) {
            answer = e.getClass().getSimpleName();
        }
        answers.append(call).append(' ').append(answer).append("; ");
    }

    private static void bills(ReinsuranceDesk x, StringBuilder answers) {
        for (int reinsurer = 0; reinsurer < 6; reinsurer++) {
            int r = reinsurer;
            ask(answers, "bill " + r, () -> x.bill(r));
        }
    }

    /** The second bills are those of all years, and what is kept is asked when all of them are open. */
    private static void billsAndYears(ReinsuranceDesk x, StringBuilder answers) {
        bills(x, answers);
        for (int year = 0; year < 4; year++) {
            int y = year;
            ask(answers, "open " + y, () -> did(() -> x.year(y, true)));
        }
        bills(x, answers);
        for (int claim = 0; claim <= 40; claim++) {
            int c = claim;
            ask(answers, "kept " + c, () -> x.kept(c));
            ask(answers, "strike " + c, () -> did(() -> x.strike(c)));
        }
    }

    private static void ceded(ReinsuranceDesk x, StringBuilder answers, int first, int end) {
        for (int claim = first; claim < end; claim++) {
            for (int treaty = 0; treaty < 10; treaty++) {
                int c = claim;
                int t = treaty;
                ask(answers, "ceded " + c + " " + t, () -> x.ceded(c, t));
            }
        }
    }

    private static void treaties(ReinsuranceDesk x, StringBuilder answers) {
        for (int treaty = 0; treaty <= 10; treaty++) {
            int t = treaty;
            for (int what = 0; what < 4; what++) {
                int w = what;
                ask(answers, "total " + t + " " + w, () -> x.total(t, w));
            }
            for (int reinsurer = 0; reinsurer < 6; reinsurer++) {
                int r = reinsurer;
                ask(answers, "due " + t + " " + r + " 0", () -> x.due(t, r, 0));
                ask(answers, "due " + t + " " + r + " 1", () -> x.due(t, r, 1));
            }
            ask(answers, "left " + t, () -> x.left(t));
            for (int event = 1; event <= 9; event++) {
                int e = event;
                ask(answers, "window " + t + " " + e, () -> x.window(t, e));
            }
        }
    }

    /** Which numbers are free, what room is left for shares, and which claims events have. */
    private static void whatCanBeTold(ReinsuranceDesk x, StringBuilder answers) {
        for (int risk = 0; risk < 12; risk++) {
            int r = risk;
            ask(answers, "premium " + r, () -> did(() -> x.premium(r, 100_000)));
            ask(answers, "risk " + r, () -> did(() -> x.risk(r, 7, 3)));
            ask(answers, "claim " + r, () -> x.claim(r, 9, 0));
        }
        for (int treaty = 0; treaty < 10; treaty++) {
            int t = treaty;
            ask(answers, "premium of " + t, () -> x.total(t, 1));
            ask(answers, "share " + t, () -> did(() -> x.share(t, 2, 600_000)));
        }
        for (int shape = 0; shape < 4; shape++) {
            int s = shape;
            ask(answers, "treaty " + s, () -> x.treaty(s, 1, 1, 0, 0));
        }
        for (int event = 1; event <= 9; event++) {
            for (int year = 0; year < 4; year++) {
                int e = event;
                int y = year;
                ask(answers, "dissolve " + e + " " + y, () -> x.dissolve(e, y));
            }
        }
    }

    private static long did(Check.Deed deed) {
        deed.run();
        return 1;
    }
}
