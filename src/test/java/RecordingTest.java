/** Promises 1 to 9 and 18: what is told to the desk, and what it refuses. */
public final class RecordingTest {
    private static final int[] WRONG_NUMBERS = {-1, Integer.MIN_VALUE, Integer.MAX_VALUE};
    private static final int GREATEST = 1_000_000_000;

    private RecordingTest() {
    }

    public static void main(String[] args) {
        newObject();
        risk();
        premium();
        treatyNumbers();
        treatyTerms();
        share();
        claim();
        estimate();
        strike();
        dissolve();
        fullDesk();
        year();
        closedYear();
        Check.end();
    }

    /** Year 0 with risk 0 (sum 1000), and risk 1 (sum 1000) in year 1. */
    private static ReinsuranceDesk desk() {
        ReinsuranceDesk x = new ReinsuranceDesk();
        x.risk(0, 1000, 0);
        x.risk(1, 1000, 1);
        return x;
    }

    private static void newObject() {
        ReinsuranceDesk x = new ReinsuranceDesk();
        for (int risk = 0; risk < 12; risk++) {
            int number = risk;
            Check.argument("1: no risk " + number, () -> x.premium(number, 1));
            Check.argument("1: no risk to claim " + number, () -> x.claim(number, 0, 0));
        }
        Check.argument("1: no claim", () -> x.kept(0));
        Check.argument("1: no treaty", () -> x.total(0, 0));
        for (int reinsurer = 0; reinsurer < 6; reinsurer++) {
            int number = reinsurer;
            Check.answers("1: nothing to bill " + number, 0, () -> x.bill(number));
        }
        for (int year = 0; year < 4; year++) {
            int number = year;
            Check.state("1: year open " + number, () -> x.year(number, true));
        }
        x.risk(0, 5, 0);
        ReinsuranceDesk other = new ReinsuranceDesk();
        Check.argument("1: objects stand alone", () -> other.premium(0, 1));
    }

    private static void risk() {
        ReinsuranceDesk x = new ReinsuranceDesk();
        for (int wrong : WRONG_NUMBERS) {
            Check.argument("2: risk " + wrong, () -> x.risk(wrong, 1, 0));
            Check.argument("2: year " + wrong, () -> x.risk(0, 1, wrong));
            Check.argument("2: sum " + wrong, () -> x.risk(0, wrong, 0));
        }
        Check.argument("2: risk 12", () -> x.risk(12, 1, 0));
        Check.argument("2: year 4", () -> x.risk(0, 1, 4));
        Check.argument("2: sum 0", () -> x.risk(0, 0, 0));
        Check.argument("2: sum too great", () -> x.risk(0, GREATEST + 1, 0));
        Check.argument("2: a refused risk is not told", () -> x.premium(0, 1));
        Check.passes("2: least", () -> x.risk(0, 1, 0));
        Check.passes("2: greatest", () -> x.risk(11, GREATEST, 3));
        Check.state("2: told", () -> x.risk(0, 1, 0));
        Check.state("2: told in another year", () -> x.risk(0, 7, 2));
        Check.argument("2: told, but no such sum", () -> x.risk(0, 0, 0));
        x.year(2, false);
        Check.state("2: closed", () -> x.risk(3, 1, 2));
        Check.argument("2: closed, but no such sum", () -> x.risk(3, 0, 2));
        Check.passes("2: another year is open", () -> x.risk(3, 1, 1));
        x.claim(3, 0, 0);
        x.estimate(0, 100);
        x.treaty(1, 500_000, 1, 0, 0);
        Check.answers("2: its year is that which it was told with", 50, () -> x.ceded(0, 0));
    }

    private static void premium() {
        ReinsuranceDesk x = desk();
        x.treaty(0, 1_000_000, GREATEST, 0, 0);
        Check.answers("3: 0 at first", 0, () -> x.total(0, 1));
        x.premium(0, 77);
        Check.answers("3: its premium", 77, () -> x.total(0, 1));
        x.premium(0, GREATEST);
        Check.answers("3: it is told anew", GREATEST, () -> x.total(0, 1));
        x.premium(0, 0);
        Check.answers("3: 0 again", 0, () -> x.total(0, 1));
        Check.argument("3: amount -1", () -> x.premium(0, -1));
        Check.argument("3: amount too great", () -> x.premium(0, GREATEST + 1));
        Check.argument("3: not told", () -> x.premium(2, 1));
        Check.argument("3: risk 12", () -> x.premium(12, 1));
        for (int wrong : WRONG_NUMBERS) {
            Check.argument("3: risk " + wrong, () -> x.premium(wrong, 1));
        }
        x.year(0, false);
        Check.state("3: closed", () -> x.premium(0, 1));
        Check.argument("3: closed, but no such amount", () -> x.premium(0, -1));
        Check.passes("3: another year is open", () -> x.premium(1, 1));
        Check.answers("3: nothing changed", 0, () -> x.total(0, 1));
    }

    private static void treatyNumbers() {
        ReinsuranceDesk x = new ReinsuranceDesk();
        x.year(3, false);
        Check.state("4: closed", () -> x.treaty(43, 0, 1, 0, 0));
        Check.argument("4: closed, but no such b", () -> x.treaty(43, 0, 0, 0, 0));
        for (int treaty = 0; treaty < 10; treaty++) {
            int number = treaty;
            Check.answers("4: number " + number, number, () -> x.treaty(10 * (number % 5) + number % 3, 1, 1, 0, 0));
        }
        Check.state("4: there are 10", () -> x.treaty(0, 1, 1, 0, 0));
        Check.argument("4: there are 10, but no such a", () -> x.treaty(0, 0, 1, 0, 0));
        Check.argument("4: there are 10, not 11", () -> x.total(10, 0));
        ReinsuranceDesk y = new ReinsuranceDesk();
        for (int shape = -50; shape < 120; shape++) {
            int number = shape;
            boolean so = number >= 0 && number < 50 && number % 10 < 4;
            if (!so) {
                Check.argument("4: shape " + number, () -> y.treaty(number, 1, 1, 0, 0));
            } else {
                Check.passes("4: shape " + number, () -> new ReinsuranceDesk().treaty(number, 1, 1, 0, 0));
            }
        }
        for (int wrong : WRONG_NUMBERS) {
            Check.argument("4: shape " + wrong, () -> y.treaty(wrong, 1, 1, 0, 0));
        }
        Check.argument("4: refused ones have no number", () -> y.total(0, 0));
    }

    /** For each kind the least and the greatest of a, b, c, d. */
    private static void treatyTerms() {
        int[][] least = {{1, 1, 0, 0}, {1, 1, 0, 0}, {0, 1, 0, 0}, {0, 1, 0, 0}, {0, 1, 0, 0}};
        int[][] greatest = {{1_000_000, GREATEST, 0, 0}, {GREATEST, 20, 0, 0}, {GREATEST, GREATEST, 5, GREATEST},
            {GREATEST, GREATEST, 5, GREATEST}, {GREATEST, GREATEST, 0, 0}};
        for (int kind = 0; kind < 5; kind++) {
            for (int term = 0; term < 4; term++) {
                term(kind, least[kind], term, least[kind][term], true);
                term(kind, least[kind], term, greatest[kind][term], true);
                term(kind, greatest[kind], term, least[kind][term], true);
                term(kind, least[kind], term, least[kind][term] - 1, false);
                term(kind, least[kind], term, greatest[kind][term] + 1, false);
                term(kind, least[kind], term, Integer.MIN_VALUE, false);
                term(kind, least[kind], term, Integer.MAX_VALUE, false);
            }
        }
    }

    private static void term(int kind, int[] terms, int term, int value, boolean so) {
        int[] t = terms.clone();
        t[term] = value;
        String call = "4: treaty(" + 10 * kind + ", " + t[0] + ", " + t[1] + ", " + t[2] + ", " + t[3] + ")";
        Check.Deed deed = () -> new ReinsuranceDesk().treaty(10 * kind, t[0], t[1], t[2], t[3]);
        if (so) {
            Check.passes(call, deed);
        } else {
            Check.argument(call, deed);
        }
    }

    private static void share() {
        ReinsuranceDesk x = desk();
        x.treaty(0, 1_000_000, GREATEST, 0, 0);
        x.treaty(41, 0, 1, 0, 0);
        x.claim(0, 0, 0);
        x.estimate(0, 1000);
        Check.answers("5: none at first", 0, () -> x.due(0, 0, 0));
        x.share(0, 0, 400_000);
        x.share(0, 5, 600_000);
        Check.answers("5: its share", 400, () -> x.due(0, 0, 0));
        Check.answers("5: another's share", 600, () -> x.due(0, 5, 0));
        Check.state("5: one part too many", () -> x.share(0, 1, 1));
        Check.state("5: one part more", () -> x.share(0, 0, 400_001));
        Check.answers("5: nothing changed", 400, () -> x.due(0, 0, 0));
        Check.passes("5: a share is told anew", () -> x.share(0, 0, 399_999));
        Check.passes("5: and makes room", () -> x.share(0, 1, 1));
        Check.passes("5: a share of nothing", () -> x.share(0, 5, 0));
        Check.answers("5: nothing is recovered from it", 0, () -> x.due(0, 5, 0));
        Check.passes("5: of another treaty all is free", () -> x.share(1, 5, 1_000_000));
        Check.argument("5: part -1", () -> x.share(0, 0, -1));
        Check.argument("5: part too great", () -> x.share(0, 0, 1_000_001));
        Check.argument("5: treaty 2", () -> x.share(2, 0, 1));
        Check.argument("5: reinsurer 6", () -> x.share(0, 6, 1));
        for (int wrong : WRONG_NUMBERS) {
            Check.argument("5: treaty " + wrong, () -> x.share(wrong, 0, 1));
            Check.argument("5: reinsurer " + wrong, () -> x.share(0, wrong, 1));
            Check.argument("5: part " + wrong, () -> x.share(0, 0, wrong));
        }
        x.year(0, false);
        Check.state("5: closed", () -> x.share(0, 5, 0));
        Check.argument("5: closed, but no such part", () -> x.share(0, 0, -1));
        Check.passes("5: another year is open", () -> x.share(1, 5, 5));
    }

    private static void claim() {
        ReinsuranceDesk x = desk();
        Check.argument("6: not told", () -> x.claim(2, 0, 0));
        Check.argument("6: risk 12", () -> x.claim(12, 0, 0));
        Check.argument("6: event 10", () -> x.claim(0, 10, 0));
        Check.argument("6: hour 100,001", () -> x.claim(0, 0, 100_001));
        for (int wrong : WRONG_NUMBERS) {
            Check.argument("6: risk " + wrong, () -> x.claim(wrong, 0, 0));
            Check.argument("6: event " + wrong, () -> x.claim(0, wrong, 0));
            Check.argument("6: hour " + wrong, () -> x.claim(0, 0, wrong));
        }
        x.year(1, false);
        Check.state("6: closed", () -> x.claim(1, 0, 0));
        Check.argument("6: closed, but no such event", () -> x.claim(1, 10, 0));
        x.year(1, true);
        for (int claim = 0; claim < 40; claim++) {
            int number = claim;
            Check.answers("6: number " + number, number, () -> x.claim(number % 2, number % 10, 100_000 * (number % 2)));
            Check.answers("6: its estimate is 0 at first " + number, 0, () -> x.kept(number));
            if (number == 20) {
                x.strike(number);
            }
        }
        Check.state("6: there are 40, struck or not", () -> x.claim(0, 0, 0));
        Check.argument("6: there are 40, but no such hour", () -> x.claim(0, 0, -1));
        Check.argument("6: there are 40, not 41", () -> x.kept(40));
    }

    private static void estimate() {
        ReinsuranceDesk x = desk();
        x.claim(0, 0, 0);
        x.claim(1, 0, 0);
        x.estimate(0, 5);
        Check.answers("7: its estimate", 5, () -> x.kept(0));
        x.estimate(0, GREATEST);
        Check.answers("7: told anew", GREATEST, () -> x.kept(0));
        x.estimate(0, 0);
        Check.answers("7: nothing", 0, () -> x.kept(0));
        x.estimate(0, 3);
        Check.answers("7: of no other claim", 0, () -> x.kept(1));
        Check.argument("7: amount too great", () -> x.estimate(0, GREATEST + 1));
        Check.argument("7: claim 2", () -> x.estimate(2, 1));
        for (int wrong : WRONG_NUMBERS) {
            Check.argument("7: claim " + wrong, () -> x.estimate(wrong, 1));
            Check.argument("7: amount " + wrong, () -> x.estimate(0, wrong));
        }
        x.year(0, false);
        Check.state("7: closed", () -> x.estimate(0, 1));
        Check.argument("7: closed, but no such amount", () -> x.estimate(0, -1));
        Check.answers("7: nothing changed", 3, () -> x.kept(0));
        x.strike(1);
        Check.state("7: struck", () -> x.estimate(1, 1));
        Check.argument("7: struck, but no such amount", () -> x.estimate(1, -1));
    }

    private static void strike() {
        ReinsuranceDesk x = desk();
        x.treaty(0, 500_000, GREATEST, 0, 0);
        x.claim(0, 1, 0);
        x.claim(0, 1, 0);
        x.claim(1, 1, 0);
        x.estimate(0, 100);
        x.estimate(1, 300);
        Check.argument("8: claim 3", () -> x.strike(3));
        for (int wrong : WRONG_NUMBERS) {
            Check.argument("8: claim " + wrong, () -> x.strike(wrong));
        }
        x.year(0, false);
        Check.state("8: closed", () -> x.strike(0));
        x.year(0, true);
        Check.answers("8: before", 200, () -> x.total(0, 0));
        Check.passes("8: strikes", () -> x.strike(0));
        Check.state("8: struck", () -> x.strike(0));
        Check.answers("8: it counts no more", 150, () -> x.total(0, 0));
        Check.answers("8: nothing is kept", 0, () -> x.kept(0));
        Check.answers("8: nothing is ceded", 0, () -> x.ceded(0, 0));
        Check.answers("8: the other is as before", 150, () -> x.kept(1));
        Check.answers("8: it has no part in its event", 1, () -> x.dissolve(1, 0));
    }

    private static void dissolve() {
        ReinsuranceDesk x = desk();
        x.treaty(30, 0, GREATEST, 0, 0);
        x.treaty(31, 0, GREATEST, 0, 0);
        x.claim(0, 1, 10);
        x.claim(0, 1, 500);
        x.claim(0, 9, 20);
        x.claim(1, 1, 30);
        x.claim(0, 0, 40);
        x.claim(0, 1, 50);
        x.strike(5);
        for (int claim = 0; claim < 5; claim++) {
            x.estimate(claim, 100);
        }
        Check.argument("9: event 0", () -> x.dissolve(0, 0));
        Check.argument("9: event 10", () -> x.dissolve(10, 0));
        Check.argument("9: year 4", () -> x.dissolve(1, 4));
        for (int wrong : WRONG_NUMBERS) {
            Check.argument("9: event " + wrong, () -> x.dissolve(wrong, 0));
            Check.argument("9: year " + wrong, () -> x.dissolve(1, wrong));
        }
        x.year(0, false);
        Check.state("9: closed", () -> x.dissolve(1, 0));
        Check.argument("9: closed, but no such event", () -> x.dissolve(0, 0));
        x.year(0, true);
        Check.answers("9: nothing changed", 100, () -> x.ceded(0, 0));
        Check.answers("9: how many", 2, () -> x.dissolve(1, 0));
        Check.answers("9: none any more", 0, () -> x.dissolve(1, 0));
        Check.answers("9: no event, no cession", 0, () -> x.ceded(0, 0));
        Check.answers("9: the claim is still there", 100, () -> x.kept(0));
        Check.answers("9: no window", -1, () -> x.window(0, 1));
        Check.answers("9: of another event", 100, () -> x.ceded(2, 0));
        Check.answers("9: of another year", 30, () -> x.window(1, 1));
        Check.answers("9: the last event", 1, () -> x.dissolve(9, 0));
        Check.answers("9: a year without claims", 0, () -> x.dissolve(1, 3));
    }

    /** With all risks, treaties and claims there is no room left, and every call still answers. */
    private static void fullDesk() {
        ReinsuranceDesk x = new ReinsuranceDesk();
        for (int risk = 0; risk < 12; risk++) {
            x.risk(risk, 1000, 0);
            x.premium(risk, 100);
        }
        for (int treaty = 0; treaty < 10; treaty++) {
            x.treaty(10 * (treaty % 5), 1, 20, 0, 0);
            x.share(treaty, 5, 1_000_000);
        }
        for (int claim = 0; claim < 40; claim++) {
            x.claim(claim % 12, 9, 100_000 - claim);
            x.estimate(claim, 10);
        }
        Check.answers("6: the last claim, the earliest hour, goes first to the first excess", 9, () -> x.ceded(39, 2));
        Check.answers("11: what is behind it in hours", 9, () -> x.ceded(38, 2));
        Check.answers("11: the rest of its limit", 2, () -> x.ceded(37, 2));
        Check.answers("13: the window of all", 99_961, () -> x.window(8, 9));
        Check.answers("15: the last treaty", 20, () -> x.due(9, 5, 0));
        Check.answers("9: all claims", 40, () -> x.dissolve(9, 0));
        Check.answers("9: none any more", -1, () -> x.window(3, 9));
        Check.passes("17: a bill", () -> x.bill(5));
        Check.passes("8: the last claim", () -> x.strike(39));
    }

    private static void year() {
        ReinsuranceDesk x = desk();
        Check.argument("18: year 4", () -> x.year(4, false));
        for (int wrong : WRONG_NUMBERS) {
            Check.argument("18: year " + wrong, () -> x.year(wrong, false));
            Check.argument("18: year " + wrong + " open", () -> x.year(wrong, true));
        }
        for (int year = 0; year < 4; year++) {
            int number = year;
            Check.state("18: open " + number, () -> x.year(number, true));
            Check.passes("18: closes " + number, () -> x.year(number, false));
            Check.state("18: closed " + number, () -> x.year(number, false));
            Check.passes("18: opens again " + number, () -> x.year(number, true));
            Check.state("18: open again " + number, () -> x.year(number, true));
        }
    }

    /** All that can be told of a year is refused while it is closed, and taken before and behind it. */
    private static void closedYear() {
        ReinsuranceDesk x = desk();
        x.treaty(20, 10, 100, 0, 0);
        x.share(0, 0, 500_000);
        x.claim(0, 2, 0);
        x.estimate(0, 60);
        x.year(0, false);
        Check.state("18: risk", () -> x.risk(5, 1, 0));
        Check.state("18: premium", () -> x.premium(0, 1));
        Check.state("18: treaty", () -> x.treaty(0, 1, 1, 0, 0));
        Check.state("18: share", () -> x.share(0, 0, 0));
        Check.state("18: claim", () -> x.claim(0, 0, 0));
        Check.state("18: estimate", () -> x.estimate(0, 0));
        Check.state("18: strike", () -> x.strike(0));
        Check.state("18: dissolve", () -> x.dissolve(2, 0));
        Check.answers("18: a closed year answers: kept", 10, () -> x.kept(0));
        Check.answers("18: ceded", 50, () -> x.ceded(0, 0));
        Check.answers("18: left", 50, () -> x.left(0));
        Check.answers("18: total", 50, () -> x.total(0, 0));
        Check.answers("18: due", 25, () -> x.due(0, 0, 0));
        Check.answers("18: whatIf", 100, () -> x.whatIf(0, 500, 0));
        Check.passes("18: another year", () -> x.claim(1, 0, 0));
        x.year(0, true);
        Check.passes("18: risk again", () -> x.risk(5, 1, 0));
        Check.passes("18: premium again", () -> x.premium(0, 1));
        Check.answers("18: treaty again", 1, () -> x.treaty(0, 1, 1, 0, 0));
        Check.passes("18: share again", () -> x.share(0, 0, 0));
        Check.answers("18: claim again", 2, () -> x.claim(0, 0, 0));
        Check.passes("18: estimate again", () -> x.estimate(0, 0));
        Check.answers("18: dissolve again", 1, () -> x.dissolve(2, 0));
        Check.passes("18: strike again", () -> x.strike(0));
    }
}
