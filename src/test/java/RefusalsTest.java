/**
 * Promises 1 to 18: what each call refuses, by what the document names, one method for each sentence. On both sides of
 * each boundary: the last that is taken and the first that is refused, behind which the state is as it was.
 */
public final class RefusalsTest {
    private static final int GREATEST = 1_000_000_000;
    private static final int ALL = 1_000_000;

    private static final Twins.Calls EMPTY = x -> { };
    private static final Twins.Calls BUSY = RefusalsTest::busy;
    private static final Twins.Calls CLOSED = RefusalsTest::closed;
    private static final Twins.Calls OPENED = RefusalsTest::opened;

    private RefusalsTest() {
    }

    public static void main(String[] args) {
        newObject();
        risk();
        premium();
        treaty();
        share();
        claim();
        estimate();
        strike();
        dissolve();
        kept();
        ceded();
        left();
        window();
        total();
        due();
        whatIf();
        bill();
        year();
        Check.end();
    }

    /**
     * A desk in use: risks 1 to 5 (3 of year 1, 4 of year 2), treaties 0 to 7 of all kinds (5, 6 of year 1, 7 of year
     * 2), claims 0 to 9 (8 struck; 4, 5 of year 1, 6 of year 2), reinsurer 5 not billed yet, year 2 closed.
     */
    private static void busy(ReinsuranceDesk x) {
        busyRisks(x);
        busyTreaties(x);
        busyClaims(x);
        for (int reinsurer = 0; reinsurer < 5; reinsurer++) {
            x.bill(reinsurer);
        }
        x.year(2, false);
    }

    private static void busyRisks(ReinsuranceDesk x) {
        int[][] risks = {{1, 1000, 0}, {2, 3000, 0}, {3, 2000, 1}, {4, 500, 2}, {5, 1500, 0}};
        for (int[] r : risks) {
            x.risk(r[0], r[1], r[2]);
        }
        int[][] premiums = {{1, 700}, {2, 905}, {3, 333}, {4, 80}};
        for (int[] p : premiums) {
            x.premium(p[0], p[1]);
        }
    }

    private static void busyTreaties(ReinsuranceDesk x) {
        int[][] treaties = {{40, 900, 500, 0, 0}, {30, 100, 400, 1, 50}, {20, 500, 300, 1, 20}, {10, 800, 2, 0, 0},
            {0, 250_000, 1200, 0, 0}, {1, 400_000, 1500, 0, 0}, {31, 50, 200, 2, 0}, {22, 10, 100, 0, 0}};
        for (int[] t : treaties) {
            x.treaty(t[0], t[1], t[2], t[3], t[4]);
        }
        int[][] shares = {{0, 0, 300_000}, {1, 0, 500_000}, {1, 5, 400_000}, {2, 1, ALL}, {3, 2, 250_000},
            {4, 3, 333_333}, {4, 0, 100_000}, {5, 4, 600_000}, {6, 5, 700_000}, {7, 0, 123_456}};
        for (int[] s : shares) {
            x.share(s[0], s[1], s[2]);
        }
    }

    private static void busyClaims(ReinsuranceDesk x) {
        int[][] claims = {{1, 1, 10, 1900}, {2, 1, 81, 2800}, {2, 1, 82, 700}, {5, 0, 5, 1100}, {3, 1, 100, 900},
            {3, 2, 99, 1300}, {4, 0, 7, 60}, {1, 9, 100_000, 2000}, {1, 9, 99_950, 3000}, {5, 2, 0, 1700}};
        for (int[] c : claims) {
            x.estimate(x.claim(c[0], c[1], c[2]), c[3]);
        }
        x.strike(8);
    }

    /** The desk in use with each year closed. */
    private static void closed(ReinsuranceDesk x) {
        busy(x);
        x.year(0, false);
        x.year(1, false);
        x.year(3, false);
    }

    /** The desk in use, each year closed and opened again. */
    private static void opened(ReinsuranceDesk x) {
        closed(x);
        for (int year = 0; year < 4; year++) {
            x.year(year, true);
        }
    }

    private static void addTreaties(ReinsuranceDesk x, int end) {
        busy(x);
        for (int treaty = 8; treaty < end; treaty++) {
            x.treaty(41, treaty, 20, 0, 0);
        }
    }

    private static void addClaims(ReinsuranceDesk x, int end) {
        busy(x);
        for (int claim = 10; claim < end; claim++) {
            x.claim(1 + claim % 3, claim % 10, claim);
        }
    }

    /** "No risks, claims or treaties; all years open." */
    private static void newObject() {
        for (int risk = 0; risk < 12; risk++) {
            int r = risk;
            Twins.argument("1: no risk " + r, EMPTY, x -> x.premium(r, 0));
            Twins.argument("1: no risk to claim " + r, EMPTY, x -> x.claim(r, 0, 0));
            Twins.taken("1: risk " + r + " can be told", EMPTY, x -> x.risk(r, 1, 0), 0, x -> x.claim(r, 0, 0));
        }
        Twins.argument("1: no claim", EMPTY, x -> x.kept(0));
        Twins.argument("1: no treaty", EMPTY, x -> x.total(0, 0));
        for (int year = 0; year < 4; year++) {
            int y = year;
            Twins.state("1: year " + y + " is open", EMPTY, x -> x.year(y, true));
            Twins.taken("1: year " + y + " can be closed", EMPTY, x -> x.year(y, false), 0, x -> x.bill(0));
        }
    }

    private static void risk() {
        riskArguments();
        riskTold();
        riskOfClosedYear();
    }

    /** "IllegalArgumentException: no such number, sum or year" */
    private static void riskArguments() {
        Twins.range("2: risk", OPENED, 0, 11, (x, risk) -> x.risk(risk, 5, 0));
        Twins.range("2: sum", OPENED, 1, GREATEST, (x, sum) -> x.risk(0, sum, 0));
        Twins.range("2: year", OPENED, 0, 3, (x, year) -> x.risk(0, 5, year));
        Twins.range("2: sum of a risk that is told: the argument is looked at first", OPENED, 1, GREATEST,
            (x, sum) -> x.risk(sum >= 1 && sum <= GREATEST ? 0 : 1, sum, 0));
    }

    /** "IllegalStateException: it is told" */
    private static void riskTold() {
        Twins.taken("2: not told yet", OPENED, x -> x.risk(0, 1, 3), 10, x -> x.claim(0, 0, 0));
        Twins.state("2: told, with the same sum and year", OPENED, x -> x.risk(1, 1000, 0));
        Twins.state("2: told, with another sum", OPENED, x -> x.risk(1, 1001, 0));
        Twins.state("2: told, with another year", OPENED, x -> x.risk(1, 1000, 1));
        Twins.state("2: told in a year that is closed", BUSY, x -> x.risk(4, 500, 0));
    }

    /** "IllegalStateException: .. the year is closed" */
    private static void riskOfClosedYear() {
        for (int year = 0; year < 4; year++) {
            int y = year;
            Twins.state("2: year " + y + " is closed", CLOSED, x -> x.risk(0, 5, y));
            Twins.taken("2: year " + y + " is open again", OPENED, x -> x.risk(0, 5, y), 10,
                x -> x.claim(0, 0, 0));
        }
    }

    private static void premium() {
        premiumArguments();
        premiumOfClosedYear();
    }

    /** "IllegalArgumentException: no such risk (told), or amount" */
    private static void premiumArguments() {
        Twins.Calls firstAndLast = x -> {
            busy(x);
            x.risk(0, 10, 3);
            x.risk(11, 10, 3);
        };
        Twins.range("3: risk", firstAndLast, 0, 11, (x, risk) -> x.premium(risk, 50));
        Twins.argument("3: a risk that is not told", firstAndLast, x -> x.premium(10, 50));
        Twins.range("3: amount", BUSY, 0, GREATEST, (x, amount) -> x.premium(1, amount));
        Twins.taken("3: the least amount", BUSY, x -> x.premium(3, 0), 0, x -> x.total(5, 1));
        Twins.taken("3: the greatest amount", BUSY, x -> x.premium(3, GREATEST), 300_000_000, x -> x.total(5, 1));
        Twins.argument("3: an amount of a closed year", BUSY, x -> x.premium(4, -1));
    }

    /** "IllegalStateException: the year is closed" */
    private static void premiumOfClosedYear() {
        for (int risk = 1; risk <= 5; risk++) {
            int r = risk;
            Twins.state("3: the year of risk " + r + " is closed", CLOSED, x -> x.premium(r, 50));
        }
        Twins.taken("3: the year is open again", OPENED, x -> x.premium(3, 100), 30, x -> x.total(5, 1));
        Twins.taken("3: another year is closed", BUSY, x -> x.premium(3, 100), 30, x -> x.total(5, 1));
    }

    private static void treaty() {
        treatyShapes();
        treatyNumbers();
        treatyMost();
        treatyOfClosedYear();
    }

    /** "shape is 10 * kind + year" .. "IllegalArgumentException: any of these is not so" */
    private static void treatyShapes() {
        for (int shape = -11; shape < 61; shape++) {
            int s = shape;
            if (s < 0 || s >= 50 || s % 10 > 3) {
                Twins.argument("4: shape " + s, OPENED, x -> x.treaty(s, 1, 1, 0, 0));
            } else {
                Twins.taken("4: shape " + s, OPENED, x -> x.treaty(s, 1, 1, 0, 0), 9, x -> x.treaty(s, 1, 1, 0, 0));
            }
        }
        Twins.argument("4: shape -2147483648", OPENED, x -> x.treaty(Integer.MIN_VALUE, 1, 1, 0, 0));
        Twins.argument("4: shape 2147483647", OPENED, x -> x.treaty(Integer.MAX_VALUE, 1, 1, 0, 0));
    }

    /** The ranges of a, b, c, d under each kind; "c, d of kinds 0, 1, 4 have to be 0; b of all kinds is 1 and more" */
    private static void treatyNumbers() {
        int[][] least = {{1, 1, 0, 0}, {1, 1, 0, 0}, {0, 1, 0, 0}, {0, 1, 0, 0}, {0, 1, 0, 0}};
        int[][] greatest = {{ALL, GREATEST, 0, 0}, {GREATEST, 20, 0, 0}, {GREATEST, GREATEST, 5, GREATEST},
            {GREATEST, GREATEST, 5, GREATEST}, {GREATEST, GREATEST, 0, 0}};
        String[] names = {"a", "b", "c", "d"};
        for (int kind = 0; kind < 5; kind++) {
            for (int place = 0; place < 4; place++) {
                int k = kind;
                int p = place;
                String name = "4: kind " + k + ", " + names[p];
                int low = least[k][p];
                int high = greatest[k][p];
                Twins.range(name + " beside the least", BUSY, low, high, (x, value) -> tell(x, k, least[k], p, value));
                Twins.range(name + " beside the greatest", BUSY, low, high,
                    (x, value) -> tell(x, k, greatest[k], p, value));
            }
        }
    }

    private static void tell(ReinsuranceDesk x, int kind, int[] terms, int place, int value) {
        int[] t = terms.clone();
        t[place] = value;
        x.treaty(10 * kind, t[0], t[1], t[2], t[3]);
    }

    /** "TREATIES 0, 1, .. (at most 10)"; "IllegalStateException: there are 10" */
    private static void treatyMost() {
        Twins.taken("4: the tenth", x -> addTreaties(x, 9), x -> x.treaty(0, 1, 1, 0, 0), 0, x -> x.total(9, 0));
        for (int shape = 0; shape < 50; shape += 10) {
            int s = shape;
            Twins.state("4: the eleventh, of kind " + s / 10, x -> addTreaties(x, 10), x -> x.treaty(s, 1, 1, 0, 0));
        }
        Twins.argument("4: the eleventh, with no such a", x -> addTreaties(x, 10), x -> x.treaty(0, 0, 1, 0, 0));
        Twins.argument("4: there are 10, not 11", x -> addTreaties(x, 10), x -> x.total(10, 0));
        Twins.argument("4: there are 9, not 10", x -> addTreaties(x, 9), x -> x.total(9, 0));
    }

    /** "IllegalStateException: .. the year is closed" */
    private static void treatyOfClosedYear() {
        for (int year = 0; year < 4; year++) {
            int y = year;
            Twins.state("4: year " + y + " is closed", CLOSED, x -> x.treaty(20 + y, 1, 1, 0, 0));
            Twins.taken("4: year " + y + " is open again", OPENED, x -> x.treaty(20 + y, 1, 1, 0, 0), 9,
                x -> x.treaty(20 + y, 1, 1, 0, 0));
        }
        Twins.argument("4: no such b in a closed year", CLOSED, x -> x.treaty(20, 1, 0, 0, 0));
    }

    private static void share() {
        shareArguments();
        sharesTogether();
        shareOfClosedYear();
    }

    /** "IllegalArgumentException: no such treaty, reinsurer or part" */
    private static void shareArguments() {
        Twins.range("5: treaty", OPENED, 0, 7, (x, treaty) -> x.share(treaty, 1, 0));
        Twins.range("5: reinsurer", OPENED, 0, 5, (x, reinsurer) -> x.share(6, reinsurer, 300_000));
        Twins.range("5: part", x -> addTreaties(x, 9), 0, ALL, (x, part) -> x.share(8, 0, part));
        Twins.taken("5: the least part", BUSY, x -> x.share(2, 1, 0), 0, x -> x.due(2, 1, 0));
        Twins.argument("5: too great a part is no part, not too much together", BUSY, x -> x.share(2, 0, ALL + 1));
        Twins.argument("5: no such part in a closed year", BUSY, x -> x.share(7, 0, -1));
    }

    /** "together at most 1,000,000 of each"; "IllegalStateException: shares would be above 1,000,000 together" */
    private static void sharesTogether() {
        Twins.taken("5: 1,000,000 together", BUSY, x -> x.share(1, 3, 100_000), 80, x -> x.due(1, 3, 0));
        Twins.state("5: 1,000,001 together", BUSY, x -> x.share(1, 3, 100_001));
        Twins.state("5: 2,000,000 together", BUSY, x -> x.share(2, 0, ALL));
        Twins.taken("5: nothing beside 1,000,000", BUSY, x -> x.share(2, 0, 0), 0, x -> x.due(2, 0, 0));
        Twins.state("5: one part beside 1,000,000", BUSY, x -> x.share(2, 0, 1));
        Twins.taken("5: its own share does not count beside the new one", BUSY, x -> x.share(2, 1, ALL), 600,
            x -> x.due(2, 1, 0));
        Twins.taken("5: a share up to what others leave", BUSY, x -> x.share(1, 0, 600_000), 480, x -> x.due(1, 0, 0));
        Twins.state("5: a share above what others leave", BUSY, x -> x.share(1, 0, 600_001));
        Twins.Calls six = x -> {
            busy(x);
            x.treaty(41, 0, 1000, 0, 0);
            for (int reinsurer = 0; reinsurer < 5; reinsurer++) {
                x.share(8, reinsurer, 166_667);
            }
        };
        Twins.taken("5: six shares", six, x -> x.share(8, 5, 166_665), 166, x -> x.due(8, 5, 0));
        Twins.state("5: six shares, one part too many", six, x -> x.share(8, 5, 166_666));
    }

    /** "IllegalStateException: .. the year is closed" */
    private static void shareOfClosedYear() {
        for (int treaty = 0; treaty < 8; treaty++) {
            int t = treaty;
            Twins.state("5: the year of treaty " + t + " is closed", CLOSED, x -> x.share(t, 1, 0));
        }
        Twins.taken("5: the year is open again", OPENED, x -> x.share(7, 0, ALL), 50, x -> x.due(7, 0, 0));
    }

    private static void claim() {
        claimArguments();
        claimMost();
        claimOfClosedYear();
    }

    /** "IllegalArgumentException: no such risk (told), event or hour" */
    private static void claimArguments() {
        Twins.Calls firstAndLast = x -> {
            busy(x);
            x.risk(0, 10, 3);
            x.risk(11, 10, 3);
        };
        Twins.range("6: risk", firstAndLast, 0, 11, (x, risk) -> x.claim(risk, 0, 0));
        Twins.argument("6: a risk that is not told", firstAndLast, x -> x.claim(10, 0, 0));
        Twins.range("6: event", BUSY, 0, 9, (x, event) -> x.claim(1, event, 0));
        Twins.range("6: hour", BUSY, 0, 100_000, (x, hour) -> x.claim(1, 0, hour));
        Twins.taken("6: the greatest hour", BUSY, x -> x.claim(1, 8, 100_000), 100_000, x -> x.window(1, 8));
        Twins.taken("6: the least hour", BUSY, x -> x.claim(1, 8, 0), 0, x -> x.window(1, 8));
        Twins.taken("6: the greatest event", BUSY, x -> x.claim(1, 9, 3), 2, x -> x.dissolve(9, 0));
        Twins.argument("6: no such event in a closed year", BUSY, x -> x.claim(4, 10, 0));
    }

    /** "CLAIMS 0, 1, .. (at most 40)"; "IllegalStateException: there are 40" */
    private static void claimMost() {
        Twins.taken("6: the fortieth", x -> addClaims(x, 39), x -> x.claim(1, 0, 0), 0, x -> x.kept(39));
        Twins.state("6: the forty-first, a struck one counts too", x -> addClaims(x, 40), x -> x.claim(1, 0, 0));
        Twins.argument("6: the forty-first, with no such hour", x -> addClaims(x, 40), x -> x.claim(1, 0, 100_001));
        Twins.argument("6: there are 40, not 41", x -> addClaims(x, 40), x -> x.kept(40));
        Twins.argument("6: there are 39, not 40", x -> addClaims(x, 39), x -> x.kept(39));
        Twins.state("6: the forty-first, when all are struck", x -> {
            addClaims(x, 40);
            x.year(2, true);
            for (int claim = 0; claim < 40; claim++) {
                if (claim != 8) {
                    x.strike(claim);
                }
            }
        }, x -> x.claim(1, 0, 0));
    }

    /** "IllegalStateException: .. the year is closed" */
    private static void claimOfClosedYear() {
        for (int risk = 1; risk <= 5; risk++) {
            int r = risk;
            Twins.state("6: the year of risk " + r + " is closed", CLOSED, x -> x.claim(r, 1, 50));
            Twins.taken("6: the year of risk " + r + " is open again", OPENED, x -> x.claim(r, 1, 50), 11,
                x -> x.claim(r, 1, 50));
        }
    }

    private static void estimate() {
        estimateArguments();
        estimateOfStruck();
        estimateOfClosedYear();
    }

    /** "IllegalArgumentException: no such claim or amount" */
    private static void estimateArguments() {
        Twins.range("7: claim", BUSY, 0, 9, (x, claim) -> x.estimate(claim, 77));
        Twins.range("7: amount", BUSY, 0, GREATEST, (x, amount) -> x.estimate(0, amount));
        Twins.taken("7: the least amount", OPENED, x -> x.estimate(6, 0), 0, x -> x.kept(6));
        Twins.taken("7: the greatest amount", OPENED, x -> x.estimate(6, GREATEST), GREATEST - 100, x -> x.kept(6));
        Twins.argument("7: no such amount of a struck claim", BUSY, x -> x.estimate(8, -1));
        Twins.argument("7: no such amount in a closed year", BUSY, x -> x.estimate(6, GREATEST + 1));
    }

    /** "IllegalStateException: it is struck" */
    private static void estimateOfStruck() {
        Twins.state("7: struck", OPENED, x -> x.estimate(8, 1));
        Twins.state("7: struck, with the same estimate", OPENED, x -> x.estimate(8, 3000));
        Twins.taken("7: not struck", OPENED, x -> x.estimate(7, 4), 1, x -> x.ceded(7, 4));
    }

    /** "IllegalStateException: .. the year is closed" */
    private static void estimateOfClosedYear() {
        for (int claim = 0; claim < 10; claim++) {
            int c = claim;
            Twins.state("7: the year of claim " + c + " is closed", CLOSED, x -> x.estimate(c, 1));
        }
        Twins.taken("7: the year is open again", OPENED, x -> x.estimate(6, 11), 1, x -> x.ceded(6, 7));
    }

    private static void strike() {
        strikeArguments();
        strikeOfStruck();
        strikeOfClosedYear();
    }

    /** "IllegalArgumentException: no such claim" */
    private static void strikeArguments() {
        Twins.range("8: claim", BUSY, 0, 9, (x, claim) -> x.strike(claim));
        Twins.argument("8: no claims", EMPTY, x -> x.strike(0));
    }

    /** "IllegalStateException: it is struck" */
    private static void strikeOfStruck() {
        Twins.taken("8: not struck yet", BUSY, x -> x.strike(7), 0, x -> x.kept(7));
        Twins.state("8: struck", OPENED, x -> x.strike(8));
    }

    /** "IllegalStateException: .. the year is closed" */
    private static void strikeOfClosedYear() {
        for (int claim = 0; claim < 10; claim++) {
            int c = claim;
            Twins.state("8: the year of claim " + c + " is closed", CLOSED, x -> x.strike(c));
        }
        Twins.taken("8: the year is open again", OPENED, x -> x.strike(6), 100, x -> x.left(7));
    }

    private static void dissolve() {
        dissolveArguments();
        dissolveOfClosedYear();
    }

    /** "IllegalArgumentException: no such event (1 .. 9) or year" */
    private static void dissolveArguments() {
        Twins.range("9: event", OPENED, 1, 9, (x, event) -> x.dissolve(event, 0));
        Twins.range("9: year", OPENED, 0, 3, (x, year) -> x.dissolve(1, year));
        Twins.argument("9: no such event in a closed year", BUSY, x -> x.dissolve(0, 2));
    }

    /** "IllegalStateException: the year is closed" */
    private static void dissolveOfClosedYear() {
        for (int year = 0; year < 4; year++) {
            int y = year;
            Twins.state("9: year " + y + " is closed", CLOSED, x -> x.dissolve(1, y));
        }
        Twins.taken("9: the year is open again", OPENED, x -> x.dissolve(1, 0), -1, x -> x.window(1, 1));
        Twins.taken("9: another year is closed", BUSY, x -> x.dissolve(1, 1), -1, x -> x.window(6, 1));
    }

    /** "kept .. IllegalArgumentException: no such claim" */
    private static void kept() {
        Twins.range("10: claim", BUSY, 0, 9, (x, claim) -> x.kept(claim));
        for (int claim = 0; claim < 10; claim++) {
            int c = claim;
            Twins.question("10: claim " + c + " in a closed year", CLOSED, x -> x.kept(c));
        }
    }

    /** "ceded .. IllegalArgumentException: no such claim or treaty" */
    private static void ceded() {
        Twins.range("11: claim", BUSY, 0, 9, (x, claim) -> x.ceded(claim, 0));
        Twins.range("11: treaty", BUSY, 0, 7, (x, treaty) -> x.ceded(0, treaty));
        for (int treaty = 0; treaty < 8; treaty++) {
            int t = treaty;
            Twins.question("11: treaty " + t + " in a closed year", CLOSED, x -> x.ceded(0, t));
        }
    }

    /** "left .. IllegalArgumentException: no such treaty, or another kind" */
    private static void left() {
        Twins.Calls excesses = x -> {
            x.treaty(20, 0, 1, 0, 0);
            x.treaty(30, 0, 1, 0, 0);
        };
        Twins.range("12: treaty", excesses, 0, 1, (x, treaty) -> x.left(treaty));
        for (int treaty = 0; treaty < 8; treaty++) {
            int t = treaty;
            if (t == 1 || t == 2 || t == 6 || t == 7) {
                Twins.question("12: an excess, treaty " + t, BUSY, x -> x.left(t));
            } else {
                Twins.argument("12: another kind, treaty " + t, BUSY, x -> x.left(t));
            }
        }
    }

    /** "window .. IllegalArgumentException: no such treaty or event, or another kind" */
    private static void window() {
        Twins.Calls excesses = x -> {
            x.treaty(30, 0, 1, 0, 0);
            x.treaty(33, 0, 1, 0, 0);
        };
        Twins.range("13: treaty", excesses, 0, 1, (x, treaty) -> x.window(treaty, 1));
        Twins.range("13: event", BUSY, 1, 9, (x, event) -> x.window(1, event));
        for (int treaty = 0; treaty < 8; treaty++) {
            int t = treaty;
            if (t == 1 || t == 6) {
                Twins.question("13: kind 3, treaty " + t, BUSY, x -> x.window(t, 1));
            } else {
                Twins.argument("13: another kind, treaty " + t, BUSY, x -> x.window(t, 1));
            }
        }
    }

    /** "total .. IllegalArgumentException: no such treaty or what" */
    private static void total() {
        for (int what = 0; what < 4; what++) {
            int w = what;
            Twins.range("14: treaty, what " + w, BUSY, 0, 7, (x, treaty) -> x.total(treaty, w));
            Twins.question("14: what " + w, CLOSED, x -> x.total(4, w));
        }
        for (int treaty = 0; treaty < 8; treaty++) {
            int t = treaty;
            Twins.range("14: what of treaty " + t, BUSY, 0, 3, (x, what) -> x.total(t, what));
        }
    }

    /** "due .. IllegalArgumentException: no such treaty, reinsurer or what" */
    private static void due() {
        for (int what = 0; what < 2; what++) {
            int w = what;
            Twins.range("15: treaty, what " + w, BUSY, 0, 7, (x, treaty) -> x.due(treaty, 0, w));
            Twins.range("15: reinsurer, what " + w, BUSY, 0, 5, (x, reinsurer) -> x.due(1, reinsurer, w));
            Twins.question("15: what " + w, CLOSED, x -> x.due(1, 5, w));
        }
        for (int treaty = 0; treaty < 8; treaty++) {
            int t = treaty;
            Twins.range("15: what of treaty " + t, BUSY, 0, 1, (x, what) -> x.due(t, 0, what));
        }
    }

    private static void whatIf() {
        whatIfArguments();
        whatIfOfStruck();
        whatIfChangesNothing();
    }

    /** "IllegalArgumentException: no such claim, amount or treaty" */
    private static void whatIfArguments() {
        Twins.range("16: claim", BUSY, 0, 9, (x, claim) -> x.whatIf(claim, 1, 0));
        Twins.range("16: amount", BUSY, 0, GREATEST, (x, amount) -> x.whatIf(0, amount, 0));
        Twins.range("16: treaty", BUSY, 0, 7, (x, treaty) -> x.whatIf(0, 1, treaty));
        Twins.argument("16: no such amount of a struck claim", BUSY, x -> x.whatIf(8, -1, 0));
        Twins.argument("16: no such treaty of a struck claim", BUSY, x -> x.whatIf(8, 1, 8));
    }

    /** "IllegalStateException: the claim is struck" */
    private static void whatIfOfStruck() {
        for (int treaty = 0; treaty < 8; treaty++) {
            int t = treaty;
            Twins.state("16: struck, treaty " + t, BUSY, x -> x.whatIf(8, 1, t));
            Twins.question("16: not struck, treaty " + t, BUSY, x -> x.whatIf(7, 1, t));
        }
    }

    /** "(nothing changes)": so it is free in a closed year too */
    private static void whatIfChangesNothing() {
        for (int claim = 0; claim < 8; claim++) {
            int c = claim;
            Twins.question("16: least, claim " + c, CLOSED, x -> x.whatIf(c, 0, 0));
            Twins.question("16: greatest, claim " + c, BUSY, x -> x.whatIf(c, GREATEST, 0));
        }
    }

    /** "bill .. IllegalArgumentException: there is none such": nothing is booked */
    private static void bill() {
        Twins.range("17: reinsurer", BUSY, 0, 5, (x, reinsurer) -> x.bill(reinsurer));
    }

    private static void year() {
        yearArguments();
        yearThatIsSo();
    }

    /** "IllegalArgumentException: there is none such" */
    private static void yearArguments() {
        Twins.range("18: year to open", CLOSED, 0, 3, (x, year) -> x.year(year, true));
        Twins.range("18: year to close", OPENED, 0, 3, (x, year) -> x.year(year, false));
    }

    /** "IllegalStateException: it is so" */
    private static void yearThatIsSo() {
        for (int year = 0; year < 4; year++) {
            int y = year;
            Twins.state("18: open year " + y, OPENED, x -> x.year(y, true));
            Twins.state("18: closed year " + y, CLOSED, x -> x.year(y, false));
        }
    }
}
