/**
 * The document's terms: one method for each sentence that names a boundary inside the numbers ('at most', 'at least',
 * 'above', 'before', the earliest, the lowest, rounded down) or an answer for nothing there, on both sides of it: the
 * last that is cut and the first that isn't.
 */
public final class BoundsTest {
    private static final int GREATEST = 1_000_000_000;
    private static final int ALL = 1_000_000;

    private BoundsTest() {
    }

    public static void main(String[] args) {
        zeroAtFirst();
        struckCountsNowhere();
        orderOfTreaties();
        quota();
        surplus();
        excessOfRisk();
        excessOfEvent();
        stopLoss();
        premiums();
        reinsurers();
        ratioAndCommission();
        bills();
        closedYears();
        nothingThere();
        wideNumbers();
        lastCall();
        Check.end();
    }

    /** Year 0 with risk 0, whose sum is 1000. */
    private static ReinsuranceDesk desk() {
        ReinsuranceDesk x = new ReinsuranceDesk();
        x.risk(0, 1000, 0);
        return x;
    }

    private static int add(ReinsuranceDesk x, int event, int hour, int amount) {
        int claim = x.claim(0, event, hour);
        x.estimate(claim, amount);
        return claim;
    }

    private static void cededAre(String what, ReinsuranceDesk x, int treaty, int... due) {
        for (int claim = 0; claim < due.length; claim++) {
            int c = claim;
            Check.answers(what + ", ceded(" + c + ", " + treaty + ")", due[c], () -> x.ceded(c, treaty));
        }
    }

    private static void zeroAtFirst() {
        premiumAtFirst();
        estimateAtFirst();
        shareAtFirst();
    }

    /** "a PREMIUM (0 at first)" */
    private static void premiumAtFirst() {
        ReinsuranceDesk x = desk();
        x.treaty(0, ALL, GREATEST, 0, 0);
        Check.answers("premium at first", 0, () -> x.total(0, 1));
        x.premium(0, 1);
        Check.answers("premium told", 1, () -> x.total(0, 1));
        x.premium(0, 0);
        Check.answers("premium told as nothing", 0, () -> x.total(0, 1));
    }

    /** "an ESTIMATE (0 at first)" */
    private static void estimateAtFirst() {
        ReinsuranceDesk x = desk();
        x.claim(0, 0, 0);
        Check.answers("estimate at first", 0, () -> x.kept(0));
        x.estimate(0, 1);
        Check.answers("estimate told", 1, () -> x.kept(0));
        Check.answers("a new claim beside it", 1, () -> x.claim(0, 0, 0));
        Check.answers("its estimate at first", 0, () -> x.kept(1));
    }

    /** Nothing is said of shares that are not told: none has one. */
    private static void shareAtFirst() {
        ReinsuranceDesk x = desk();
        x.treaty(0, ALL, GREATEST, 0, 0);
        add(x, 0, 0, 1_000_000);
        for (int reinsurer = 0; reinsurer < 6; reinsurer++) {
            int r = reinsurer;
            Check.answers("share at first of " + r, 0, () -> x.due(0, r, 0));
            Check.answers("bill at first of " + r, 0, () -> x.bill(r));
        }
        x.share(0, 4, 1);
        Check.answers("the least share", 1, () -> x.due(0, 4, 0));
    }

    /** "a claim can be STRUCK (void: it counts nowhere any more)" */
    private static void struckCountsNowhere() {
        int[][] treaties = {{0, ALL, GREATEST, 0, 0}, {10, 500, 1, 0, 0}, {20, 0, GREATEST, 0, 10}, {30, 0, GREATEST, 0, 10},
            {40, 100, GREATEST, 0, 0}};
        int[] before = {300, 150, 290, 290, 200};
        int[] behind = {200, 100, 190, 190, 100};
        for (int kind = 0; kind < 5; kind++) {
            int[] t = treaties[kind];
            ReinsuranceDesk x = desk();
            x.treaty(t[0], t[1], t[2], t[3], t[4]);
            x.share(0, 0, ALL);
            add(x, 1, 0, 100);
            add(x, 1, 0, 200);
            Check.answers("not struck, kind " + kind, before[kind], () -> x.total(0, 0));
            Check.answers("billed, kind " + kind, before[kind], () -> x.bill(0));
            x.strike(0);
            Check.answers("struck, kind " + kind, behind[kind], () -> x.total(0, 0));
            Check.answers("billed anew, kind " + kind, behind[kind] - before[kind], () -> x.bill(0));
            Check.answers("kept of a struck one, kind " + kind, 0, () -> x.kept(0));
            Check.answers("ceded of a struck one, kind " + kind, 0, () -> x.ceded(0, 0));
            Check.answers("an event has no struck ones, kind " + kind, 1, () -> x.dissolve(1, 0));
        }
    }

    /** "The treaties of a year come by kinds, then numbers" */
    private static void orderOfTreaties() {
        int[][] treaties = {{0, 500_000, GREATEST, 0, 0}, {10, 500, 1, 0, 0}, {20, 0, 100, 0, 0}, {30, 0, 100, 0, 0},
            {40, 0, 100, 0, 0}};
        for (int first = 0; first < 5; first++) {
            for (int second = 0; second < 5; second++) {
                int[] f = treaties[first];
                int[] s = treaties[second];
                ReinsuranceDesk x = desk();
                x.treaty(f[0], f[1], f[2], f[3], f[4]);
                x.treaty(s[0], s[1], s[2], s[3], s[4]);
                add(x, 1, 0, 80);
                boolean told = first <= second;
                int ahead = 80 / (Math.min(first, second) < 2 ? 2 : 1);
                int after = (80 - ahead) / (Math.max(first, second) < 2 ? 2 : 1);
                String name = "kind " + first + ", then kind " + second;
                cededAre(name, x, 0, told ? ahead : after);
                cededAre(name, x, 1, told ? after : ahead);
            }
        }
    }

    private static void quota() {
        quotaOfSum();
        quotaRoundsThePart();
        quotaRoundsTheClaim();
        quotaOfAll();
    }

    /** "the part a when the risk's sum is not above b, otherwise the part a * b / sum" */
    private static void quotaOfSum() {
        int[][] rows = {{999, 1_000_000}, {1000, 1_000_000}, {1001, 999_000}, {2000, 500_000}, {GREATEST, 1}};
        for (int[] row : rows) {
            ReinsuranceDesk x = new ReinsuranceDesk();
            x.risk(0, row[0], 0);
            x.treaty(0, ALL, 1000, 0, 0);
            add(x, 0, 0, ALL);
            cededAre("quota up to 1000, sum " + row[0], x, 0, row[1]);
        }
    }

    /** "Quotients are rounded down": the part a * b / sum, before it is taken of the claim */
    private static void quotaRoundsThePart() {
        ReinsuranceDesk x = new ReinsuranceDesk();
        x.risk(0, 3, 0);
        x.treaty(0, ALL, 1, 0, 0);
        add(x, 0, 0, 3);
        add(x, 0, 0, 4);
        add(x, 0, 0, 3_000_000);
        cededAre("333,333 parts", x, 0, 0, 1, 999_999);
        ReinsuranceDesk y = new ReinsuranceDesk();
        y.risk(0, GREATEST, 0);
        y.risk(1, 999_999, 0);
        y.treaty(0, 1, GREATEST - 1, 0, 0);
        y.treaty(0, ALL, 999_998, 0, 0);
        add(y, 0, 0, GREATEST);
        y.estimate(y.claim(1, 0, 0), GREATEST);
        cededAre("a part less than a millionth", y, 0, 0, 1000);
        cededAre("a part just below the next millionth", y, 1, 999_000, 999_997_000);
    }

    /** "Quotients are rounded down": the part of the claim */
    private static void quotaRoundsTheClaim() {
        ReinsuranceDesk x = desk();
        x.treaty(0, 250_000, 1000, 0, 0);
        for (int amount : new int[] {0, 3, 4, 7, 8}) {
            add(x, 0, 0, amount);
        }
        cededAre("a quarter", x, 0, 0, 0, 1, 1, 2);
    }

    /** "a part 1 .. 1,000,000": the least and the greatest */
    private static void quotaOfAll() {
        ReinsuranceDesk x = desk();
        x.treaty(0, 1, 1000, 0, 0);
        x.treaty(0, ALL, 1000, 0, 0);
        x.treaty(0, ALL, 1000, 0, 0);
        add(x, 0, 0, 999_999);
        add(x, 0, 0, 1_000_000);
        cededAre("a millionth", x, 0, 0, 1);
        cededAre("all that is left", x, 1, 999_999, 999_999);
        cededAre("behind all", x, 2, 0, 0);
        Check.answers("nothing is kept", 0, () -> x.kept(1));
    }

    private static void surplus() {
        surplusAboveTheLine();
        surplusAtMostItsLines();
        surplusRoundsThePart();
        surplusWithMostLines();
    }

    /** "x is what the sum is above a" */
    private static void surplusAboveTheLine() {
        int[][] rows = {{1, 0}, {499, 0}, {500, 0}, {501, 1996}, {502, 3984}, {1000, 500_000}};
        for (int[] row : rows) {
            ReinsuranceDesk x = new ReinsuranceDesk();
            x.risk(0, row[0], 0);
            x.treaty(10, 500, 1, 0, 0);
            add(x, 0, 0, ALL);
            cededAre("surplus above 500, sum " + row[0], x, 0, row[1]);
        }
    }

    /** "at most a * b" */
    private static void surplusAtMostItsLines() {
        int[][] rows = {{299, 665_551}, {300, 666_666}, {301, 664_451}, {2000, 100_000}, {GREATEST, 0}};
        for (int[] row : rows) {
            ReinsuranceDesk x = new ReinsuranceDesk();
            x.risk(0, row[0], 0);
            x.treaty(10, 100, 2, 0, 0);
            add(x, 0, 0, ALL);
            cededAre("surplus of two lines of 100, sum " + row[0], x, 0, row[1]);
        }
    }

    /** "Quotients are rounded down": the part 1,000,000 * x / sum, and the part of the claim */
    private static void surplusRoundsThePart() {
        ReinsuranceDesk x = new ReinsuranceDesk();
        x.risk(0, 3, 0);
        x.treaty(10, 1, 20, 0, 0);
        add(x, 0, 0, 3);
        add(x, 0, 0, 3_000_000);
        add(x, 0, 0, 1);
        add(x, 0, 0, 2);
        cededAre("666,666 parts", x, 0, 1, 1_999_998, 0, 1);
    }

    /** "how many lines, 1 .. 20": the most of them with the greatest line are above all int numbers */
    private static void surplusWithMostLines() {
        ReinsuranceDesk x = new ReinsuranceDesk();
        x.risk(0, GREATEST, 0);
        x.treaty(10, GREATEST, 20, 0, 0);
        x.treaty(10, GREATEST - 1, 20, 0, 0);
        x.treaty(10, 500_000_000, 20, 0, 0);
        add(x, 0, 0, GREATEST);
        cededAre("the sum is the line", x, 0, 0);
        cededAre("one cent above the line, less than a millionth", x, 1, 0);
        cededAre("half of the sum", x, 2, 500_000_000);
    }

    private static void excessOfRisk() {
        excessAboveA();
        excessAtMostB();
        excessDeductible();
        excessOfTheYear();
        excessByHoursThenNumbers();
    }

    /** "of each what is kept above a" */
    private static void excessAboveA() {
        ReinsuranceDesk x = desk();
        x.treaty(20, 100, GREATEST, 0, 0);
        for (int amount : new int[] {0, 99, 100, 101, 102}) {
            add(x, 0, 0, amount);
        }
        cededAre("above 100", x, 0, 0, 0, 0, 1, 2);
        ReinsuranceDesk y = desk();
        y.treaty(20, 0, GREATEST, 0, 0);
        y.treaty(20, GREATEST, GREATEST, 0, 0);
        add(y, 0, 0, 1);
        cededAre("above nothing", y, 0, 1);
        ReinsuranceDesk z = desk();
        z.treaty(20, GREATEST, GREATEST, 0, 0);
        z.treaty(20, GREATEST - 1, GREATEST, 0, 0);
        add(z, 0, 0, GREATEST);
        cededAre("above the greatest", z, 0, 0);
        cededAre("above one less", z, 1, 1);
    }

    /** "at most b" */
    private static void excessAtMostB() {
        ReinsuranceDesk x = desk();
        x.treaty(20, 100, 50, 5, 0);
        for (int amount : new int[] {149, 150, 151, GREATEST}) {
            add(x, 0, 0, amount);
        }
        cededAre("at most 50", x, 0, 49, 50, 50, 50);
    }

    /** "the first d of all these together is not taken" */
    private static void excessDeductible() {
        ReinsuranceDesk x = desk();
        x.treaty(20, 100, 50, 5, 60);
        add(x, 0, 0, 130);
        add(x, 0, 1, 130);
        cededAre("together 60", x, 0, 0, 0);
        x.estimate(1, 131);
        cededAre("together 61", x, 0, 0, 1);
        x.estimate(0, GREATEST);
        cededAre("of each no more than b goes to it", x, 0, 0, 21);
        add(x, 0, 2, 110);
        cededAre("behind it all is taken", x, 0, 0, 21, 10);
        ReinsuranceDesk y = desk();
        y.treaty(20, 0, GREATEST, 0, GREATEST);
        add(y, 0, 0, GREATEST);
        cededAre("the greatest deductible", y, 0, 0);
        add(y, 0, 0, 1);
        cededAre("one cent more", y, 0, 0, 1);
    }

    /** "no more than b * (1 + c) of the year together", for each number of reinstatements */
    private static void excessOfTheYear() {
        for (int c = 0; c <= 5; c++) {
            ReinsuranceDesk x = desk();
            x.treaty(20, 100, 50, c, 30);
            for (int claim = 0; claim < 1 + c; claim++) {
                add(x, 0, claim, 150);
            }
            int last = add(x, 0, 99, 129);
            String name = ", reinstatements " + c;
            Check.answers("one cent less" + name, 29, () -> x.ceded(last, 0));
            Check.answers("one cent is left" + name, 1, () -> x.left(0));
            x.estimate(last, 130);
            Check.answers("all of it" + name, 30, () -> x.ceded(last, 0));
            Check.answers("nothing is left" + name, 0, () -> x.left(0));
            x.estimate(last, 131);
            Check.answers("one cent more is cut" + name, 30, () -> x.ceded(last, 0));
            Check.answers("no less than nothing is left" + name, 0, () -> x.left(0));
            Check.answers("of the year together" + name, 50 * (1 + c), () -> x.total(0, 0));
            int behind = add(x, 0, 100, 150);
            Check.answers("nothing behind it" + name, 0, () -> x.ceded(behind, 0));
        }
    }

    /** "claims in order of hours, then numbers" */
    private static void excessByHoursThenNumbers() {
        ReinsuranceDesk x = desk();
        x.treaty(20, 0, 100, 0, 0);
        add(x, 0, 50, 70);
        add(x, 0, 50, 70);
        cededAre("the same hour, the lowest number first", x, 0, 70, 30);
        add(x, 0, 49, 70);
        cededAre("an hour before, the highest number", x, 0, 30, 0, 70);
        add(x, 0, 51, 70);
        add(x, 0, 0, 70);
        add(x, 0, 100_000, 70);
        cededAre("the first hour", x, 0, 0, 0, 30, 0, 70, 0);
        x.strike(4);
        cededAre("the first hour struck", x, 0, 30, 0, 70, 0, 0, 0);
    }

    private static void excessOfEvent() {
        windowOf72Hours();
        windowAtTheEnd();
        windowWithTheGreatestSum();
        windowTheEarliest();
        windowAtAClaim();
        eventsOneToNine();
        eventsInOrder();
        eventAboveA();
        eventAtMostB();
        eventDeductible();
        eventOfTheYear();
        eventByParts();
        eventRemainders();
    }

    /** "from an hour h on, before h + 72" */
    private static void windowOf72Hours() {
        ReinsuranceDesk x = desk();
        x.treaty(30, 0, GREATEST, 0, 0);
        add(x, 1, 1000, 9);
        add(x, 1, 1071, 5);
        add(x, 1, 1072, 4);
        cededAre("71 hours later, and 72", x, 0, 9, 5, 0);
        ReinsuranceDesk y = desk();
        y.treaty(30, 0, GREATEST, 0, 0);
        add(y, 1, 1000, 9);
        add(y, 1, 999, 5);
        cededAre("an hour before is the beginning", y, 0, 9, 5);
        Check.answers("its window", 999, () -> y.window(0, 1));
    }

    /** The last window goes beyond hour 100,000. */
    private static void windowAtTheEnd() {
        ReinsuranceDesk x = desk();
        x.treaty(30, 0, GREATEST, 0, 0);
        add(x, 1, 100_000, 5);
        add(x, 1, 99_929, 5);
        add(x, 1, 99_928, 4);
        cededAre("at the end", x, 0, 5, 5, 0);
        Check.answers("71 hours before the end", 99_929, () -> x.window(0, 1));
        x.estimate(0, 20);
        x.estimate(1, 0);
        x.estimate(2, 19);
        Check.answers("with nothing in it, but earlier", 99_929, () -> x.window(0, 1));
        x.strike(1);
        Check.answers("the last hour", 100_000, () -> x.window(0, 1));
    }

    /** "in which the sum of what is kept is greatest" */
    private static void windowWithTheGreatestSum() {
        ReinsuranceDesk x = desk();
        x.treaty(30, 0, GREATEST, 0, 0);
        add(x, 1, 0, 100);
        add(x, 1, 500, 60);
        add(x, 1, 560, 39);
        Check.answers("99 is less than 100", 0, () -> x.window(0, 1));
        cededAre("99 is less than 100", x, 0, 100, 0, 0);
        x.estimate(2, 41);
        Check.answers("101 is more than 100", 500, () -> x.window(0, 1));
        cededAre("101 is more than 100", x, 0, 0, 60, 41);
        ReinsuranceDesk y = desk();
        y.treaty(30, 0, GREATEST, 0, 0);
        y.treaty(20, 30, 10, 0, 0);
        add(y, 1, 0, 40);
        add(y, 1, 500, 31);
        Check.answers("what is kept, not what was told", 500, () -> y.window(0, 1));
        y.estimate(1, 30);
        Check.answers("the same kept", 0, () -> y.window(0, 1));
    }

    /** "the earliest of the same ones" */
    private static void windowTheEarliest() {
        ReinsuranceDesk x = desk();
        x.treaty(30, 0, GREATEST, 0, 0);
        add(x, 1, 500, 100);
        add(x, 1, 300, 100);
        add(x, 1, 400, 100);
        Check.answers("three the same", 300, () -> x.window(0, 1));
        cededAre("three the same", x, 0, 0, 100, 0);
        x.estimate(2, 101);
        Check.answers("one cent more", 400, () -> x.window(0, 1));
        x.estimate(0, 101);
        Check.answers("two the same", 400, () -> x.window(0, 1));
        x.estimate(2, 100);
        Check.answers("the last alone", 500, () -> x.window(0, 1));
        x.estimate(0, 0);
        x.estimate(1, 0);
        x.estimate(2, 0);
        Check.answers("nothing in all of them", 300, () -> x.window(0, 1));
    }

    /** "h being the hour of one of these claims" */
    private static void windowAtAClaim() {
        ReinsuranceDesk x = desk();
        x.treaty(30, 0, GREATEST, 0, 0);
        add(x, 1, 100, 5);
        add(x, 2, 99, 5);
        add(x, 0, 98, 5);
        Check.answers("no earlier hour without a claim of the event", 100, () -> x.window(0, 1));
        add(x, 1, 99, 0);
        Check.answers("an earlier claim of nothing, with the same sum", 99, () -> x.window(0, 1));
        x.strike(3);
        Check.answers("a struck claim is none", 100, () -> x.window(0, 1));
    }

    /** "an EVENT (0 none, 1 .. 9)" */
    private static void eventsOneToNine() {
        ReinsuranceDesk x = desk();
        x.treaty(30, 0, GREATEST, 0, 0);
        add(x, 0, 7, 10);
        add(x, 1, 8, 10);
        add(x, 9, 9, 10);
        cededAre("no event, the first, the last", x, 0, 0, 10, 10);
        Check.answers("the first", 8, () -> x.window(0, 1));
        Check.answers("the last", 9, () -> x.window(0, 9));
    }

    /** "events 1, 2, .. in order" */
    private static void eventsInOrder() {
        ReinsuranceDesk x = desk();
        x.treaty(30, 0, 100, 0, 0);
        add(x, 9, 0, 70);
        add(x, 2, 500, 70);
        cededAre("event 2, then 9", x, 0, 30, 70);
        add(x, 1, 900, 70);
        cededAre("event 1, then 2", x, 0, 0, 30, 70);
    }

    /** "of that sum what is above a" */
    private static void eventAboveA() {
        ReinsuranceDesk x = desk();
        x.treaty(30, 100, GREATEST, 0, 0);
        add(x, 1, 0, 60);
        add(x, 1, 1, 39);
        Check.answers("99", 0, () -> x.total(0, 0));
        x.estimate(1, 40);
        Check.answers("100", 0, () -> x.total(0, 0));
        x.estimate(1, 41);
        Check.answers("101", 1, () -> x.total(0, 0));
        cededAre("one cent, of the greatest remainder", x, 0, 1, 0);
    }

    /** "at most b" */
    private static void eventAtMostB() {
        ReinsuranceDesk x = desk();
        x.treaty(30, 100, 50, 5, 0);
        add(x, 1, 0, 100);
        add(x, 1, 1, 49);
        Check.answers("149", 49, () -> x.total(0, 0));
        x.estimate(1, 50);
        Check.answers("150", 50, () -> x.total(0, 0));
        x.estimate(1, 51);
        Check.answers("151", 50, () -> x.total(0, 0));
        add(x, 2, 0, 151);
        Check.answers("of each event", 100, () -> x.total(0, 0));
    }

    /** "d .. as above": the first d of all events together is not taken */
    private static void eventDeductible() {
        ReinsuranceDesk x = desk();
        x.treaty(30, 100, 50, 5, 60);
        add(x, 1, 0, 130);
        add(x, 2, 0, 130);
        cededAre("together 60", x, 0, 0, 0);
        x.estimate(1, 131);
        cededAre("together 61", x, 0, 0, 1);
        x.estimate(0, GREATEST);
        cededAre("of each event no more than b goes to it", x, 0, 0, 21);
    }

    /** "b * (1 + c) as above", for each number of reinstatements */
    private static void eventOfTheYear() {
        for (int c = 0; c <= 5; c++) {
            ReinsuranceDesk x = desk();
            x.treaty(30, 100, 50, c, 30);
            for (int event = 1; event <= 1 + c; event++) {
                add(x, event, 0, 150);
            }
            int last = add(x, 8, 0, 129);
            String name = " of events, reinstatements " + c;
            Check.answers("one cent less" + name, 29, () -> x.ceded(last, 0));
            Check.answers("one cent is left" + name, 1, () -> x.left(0));
            x.estimate(last, 130);
            Check.answers("all of it" + name, 30, () -> x.ceded(last, 0));
            Check.answers("nothing is left" + name, 0, () -> x.left(0));
            x.estimate(last, 131);
            Check.answers("one cent more is cut" + name, 30, () -> x.ceded(last, 0));
            int behind = add(x, 9, 0, 150);
            Check.answers("nothing behind it" + name, 0, () -> x.ceded(behind, 0));
            Check.answers("of the year together" + name, 50 * (1 + c), () -> x.total(0, 0));
        }
    }

    /** "It is taken of the window's claims by their parts of the sum, rounded down" */
    private static void eventByParts() {
        ReinsuranceDesk x = desk();
        x.treaty(30, 0, 100, 0, 0);
        add(x, 1, 0, 100);
        add(x, 1, 1, 300);
        add(x, 1, 5000, 399);
        add(x, 1, 2, 0);
        cededAre("quarters, without remainders", x, 0, 25, 75, 0, 0);
        x.estimate(1, 299);
        cededAre("the earlier of 399", x, 0, 25, 75, 0, 0);
        x.estimate(1, 298);
        cededAre("the later of 399", x, 0, 0, 0, 100, 0);
    }

    private static void eventRemainders() {
        greatestRemaindersFirst();
        lowestNumberOfTheSame();
        allCentsButOne();
    }

    /** "what is left one cent each of those with the greatest remainders" */
    private static void greatestRemaindersFirst() {
        ReinsuranceDesk x = desk();
        x.treaty(30, 0, 10, 0, 0);
        add(x, 1, 0, 33);
        add(x, 1, 0, 33);
        add(x, 1, 0, 34);
        cededAre("3.3, 3.3, 3.4", x, 0, 3, 3, 4);
        x.estimate(1, 34);
        x.estimate(2, 33);
        cededAre("3.3, 3.4, 3.3", x, 0, 3, 4, 3);
        x.estimate(0, 38);
        x.estimate(1, 35);
        x.estimate(2, 27);
        cededAre("3.8, 3.5, 2.7: two cents", x, 0, 4, 3, 3);
    }

    /** "of the same ones the lowest number first" */
    private static void lowestNumberOfTheSame() {
        ReinsuranceDesk x = desk();
        x.treaty(30, 0, 10, 0, 0);
        add(x, 1, 30, 4);
        add(x, 1, 20, 4);
        add(x, 1, 10, 4);
        cededAre("one cent of three the same, not by hours", x, 0, 4, 3, 3);
        add(x, 1, 5, 3);
        cededAre("2.6, 2.6, 2.6, 2.0: two cents of three", x, 0, 3, 3, 2, 2);
    }

    /** "one cent each": as many cents as there are claims less one */
    private static void allCentsButOne() {
        ReinsuranceDesk x = desk();
        x.treaty(30, 0, 39, 0, 0);
        for (int claim = 0; claim < 40; claim++) {
            add(x, 1, 71 - claim, 1);
        }
        for (int claim = 0; claim < 40; claim++) {
            int c = claim;
            Check.answers("39 cents of 40 claims, claim " + c, c < 39 ? 1 : 0, () -> x.ceded(c, 0));
            Check.answers("39 cents of 40 claims, kept " + c, c < 39 ? 0 : 1, () -> x.kept(c));
        }
    }

    private static void stopLoss() {
        stopLossAboveA();
        stopLossAtMostB();
        stopLossOfAllClaims();
        stopLossByParts();
    }

    /** "of the sum of all that is kept of the year what is above a" */
    private static void stopLossAboveA() {
        ReinsuranceDesk x = desk();
        x.treaty(40, 100, GREATEST, 0, 0);
        add(x, 0, 0, 50);
        add(x, 3, 9000, 49);
        Check.answers("stop loss of 99", 0, () -> x.total(0, 0));
        x.estimate(1, 50);
        Check.answers("stop loss of 100", 0, () -> x.total(0, 0));
        x.estimate(1, 51);
        Check.answers("stop loss of 101", 1, () -> x.total(0, 0));
        cededAre("stop loss of 101", x, 0, 0, 1);
    }

    /** "at most b" */
    private static void stopLossAtMostB() {
        ReinsuranceDesk x = desk();
        x.treaty(40, 100, 50, 0, 0);
        add(x, 0, 0, 100);
        add(x, 0, 0, 49);
        Check.answers("stop loss of 149", 49, () -> x.total(0, 0));
        x.estimate(1, 50);
        Check.answers("stop loss of 150", 50, () -> x.total(0, 0));
        x.estimate(1, 51);
        Check.answers("stop loss of 151", 50, () -> x.total(0, 0));
    }

    /** "the sum of all that is kept of the year": of no other year, at any hour, with any event, with none */
    private static void stopLossOfAllClaims() {
        ReinsuranceDesk x = desk();
        x.risk(1, 1000, 1);
        x.treaty(40, 0, 100, 0, 0);
        add(x, 0, 0, 50);
        add(x, 9, 100_000, 50);
        x.estimate(x.claim(1, 0, 0), 50);
        cededAre("stop loss of two of three", x, 0, 50, 50, 0);
        Check.answers("another year keeps all", 50, () -> x.kept(2));
    }

    /** "taken of all claims by parts as above" */
    private static void stopLossByParts() {
        ReinsuranceDesk x = desk();
        x.treaty(40, 0, 10, 0, 0);
        add(x, 0, 30, 4);
        add(x, 0, 20, 4);
        add(x, 0, 10, 4);
        cededAre("stop loss, the lowest number of the same", x, 0, 4, 3, 3);
        x.estimate(0, 38);
        x.estimate(1, 35);
        x.estimate(2, 27);
        cededAre("stop loss, the greatest remainders", x, 0, 4, 3, 3);
    }

    private static void premiums() {
        premiumsLikewise();
        premiumsRounded();
    }

    /** "A risk's PREMIUM goes to quotas and surpluses likewise": with the same bounds of sums */
    private static void premiumsLikewise() {
        int[][] rows = {{1000, 1_000_000, 0}, {1001, 999_000, 0}, {2000, 500_000, 250_000}, {4000, 250_000, 375_000}};
        for (int[] row : rows) {
            ReinsuranceDesk x = new ReinsuranceDesk();
            x.risk(0, row[0], 0);
            x.premium(0, ALL);
            x.treaty(10, 1000, 2, 0, 0);
            x.treaty(0, ALL, 1000, 0, 0);
            Check.answers("premium of a quota, sum " + row[0], row[1], () -> x.total(1, 1));
            Check.answers("premium of a surplus behind it, sum " + row[0], row[2], () -> x.total(0, 1));
        }
        ReinsuranceDesk y = new ReinsuranceDesk();
        y.risk(0, 501, 0);
        y.risk(1, 500, 0);
        y.premium(0, ALL);
        y.premium(1, ALL);
        y.treaty(10, 500, 20, 0, 0);
        Check.answers("premium of the risk above the line alone", 1996, () -> y.total(0, 1));
    }

    /** "Quotients are rounded down": of each risk by itself */
    private static void premiumsRounded() {
        ReinsuranceDesk x = new ReinsuranceDesk();
        x.treaty(0, 500_000, GREATEST, 0, 0);
        for (int risk = 0; risk < 12; risk++) {
            x.risk(risk, 1 + risk, 0);
            x.premium(risk, 1);
        }
        Check.answers("twelve halves of a cent", 0, () -> x.total(0, 1));
        x.premium(11, 2);
        Check.answers("one whole cent", 1, () -> x.total(0, 1));
    }

    private static void reinsurers() {
        recoveredRounded();
        reinstatementOfB();
        reinstatementTimesTaken();
        reinstatementShare();
        reinstatementAtMost();
        reinstatementOfKinds();
    }

    /** "its share of all that the treaty takes (of its sum)", rounded down once */
    private static void recoveredRounded() {
        ReinsuranceDesk x = desk();
        x.treaty(0, ALL, 1000, 0, 0);
        x.share(0, 0, 500_000);
        x.share(0, 1, 499_999);
        x.share(0, 2, 1);
        add(x, 0, 0, 1);
        Check.answers("half of one cent", 0, () -> x.due(0, 0, 0));
        add(x, 0, 0, 1);
        Check.answers("half of two cents, of two claims", 1, () -> x.due(0, 0, 0));
        Check.answers("a part less than half", 0, () -> x.due(0, 1, 0));
        x.estimate(0, 999_998);
        Check.answers("a millionth of 999,999", 0, () -> x.due(0, 2, 0));
        x.estimate(0, 999_999);
        Check.answers("a millionth of 1,000,000", 1, () -> x.due(0, 2, 0));
    }

    /** "first that amount (100,000 parts of b)", rounded down */
    private static void reinstatementOfB() {
        int[][] rows = {{1, 0}, {9, 0}, {10, 1}, {19, 1}, {20, 2}, {GREATEST, 100_000_000}};
        for (int[] row : rows) {
            ReinsuranceDesk x = desk();
            x.treaty(20, 0, row[0], 1, 0);
            x.share(0, 0, ALL);
            add(x, 0, 0, GREATEST);
            Check.answers("a tenth of " + row[0], row[1], () -> x.due(0, 0, 1));
        }
    }

    /** "times the taken, over b", rounded down */
    private static void reinstatementTimesTaken() {
        int[][] rows = {{0, 0}, {9, 0}, {10, 0}, {11, 1}, {20, 1}, {21, 2}, {104, 9}, {105, 10}, {106, 10}, {GREATEST, 10}};
        for (int[] row : rows) {
            ReinsuranceDesk x = desk();
            x.treaty(20, 0, 105, 1, 0);
            x.share(0, 0, ALL);
            add(x, 0, 0, row[0]);
            Check.answers("10 times what is taken over 105, a claim of " + row[0], row[1], () -> x.due(0, 0, 1));
        }
    }

    /** "then its share", rounded down */
    private static void reinstatementShare() {
        ReinsuranceDesk x = desk();
        x.treaty(20, 0, 105, 1, 0);
        x.share(0, 0, 99_999);
        x.share(0, 1, 100_000);
        x.share(0, 2, 199_999);
        x.share(0, 3, 200_000);
        add(x, 0, 0, 105);
        Check.answers("99,999 parts of 10", 0, () -> x.due(0, 0, 1));
        Check.answers("100,000 parts of 10", 1, () -> x.due(0, 1, 1));
        Check.answers("199,999 parts of 10", 1, () -> x.due(0, 2, 1));
        Check.answers("200,000 parts of 10", 2, () -> x.due(0, 3, 1));
    }

    /** "what the treaty takes (at most b * c)", for each number of reinstatements and both kinds */
    private static void reinstatementAtMost() {
        for (int kind = 2; kind < 4; kind++) {
            for (int c = 0; c <= 5; c++) {
                ReinsuranceDesk x = desk();
                x.treaty(10 * kind, 0, 100, c, 0);
                x.share(0, 0, ALL);
                for (int claim = 0; claim < c; claim++) {
                    add(x, 1 + claim, claim, 100);
                }
                String name = ", kind " + kind + ", reinstatements " + c;
                Check.answers("b * c is taken" + name, 10 * c, () -> x.due(0, 0, 1));
                int last = add(x, 9, 99, 1);
                Check.answers("one cent more" + name, 10 * c, () -> x.due(0, 0, 1));
                x.estimate(last, 10);
                Check.answers("the first that is cut by a cent" + name, 10 * c, () -> x.due(0, 0, 1));
                x.estimate(last, 100);
                Check.answers("b * (1 + c) is taken" + name, 10 * c, () -> x.due(0, 0, 1));
                Check.answers("all is recovered" + name, 100 * (1 + c), () -> x.due(0, 0, 0));
                if (c > 0) {
                    x.estimate(0, 99);
                    x.estimate(last, 0);
                    Check.answers("one cent less than b * c" + name, 10 * c - 1, () -> x.due(0, 0, 1));
                }
            }
        }
    }

    /** "a REINSTATEMENT PREMIUM of excesses (2, 3)" */
    private static void reinstatementOfKinds() {
        int[][] treaties = {{0, ALL, GREATEST, 0, 0}, {10, 1, 20, 0, 0}, {20, 0, 1000, 5, 0}, {30, 0, 1000, 5, 0},
            {40, 0, GREATEST, 0, 0}};
        int[] due = {0, 0, 100, 100, 0};
        for (int kind = 0; kind < 5; kind++) {
            int[] t = treaties[kind];
            ReinsuranceDesk x = desk();
            x.treaty(t[0], t[1], t[2], t[3], t[4]);
            x.share(0, 0, ALL);
            add(x, 1, 0, GREATEST);
            Check.answers("reinstatement premium, kind " + kind, due[kind], () -> x.due(0, 0, 1));
        }
    }

    private static void ratioAndCommission() {
        ratioAtMost();
        ratioWithoutPremium();
        ratioRounded();
        commissionByRatio();
        commissionRounded();
        ratioOfKinds();
    }

    /** A quota that takes all of one risk with this premium and one claim. */
    private static ReinsuranceDesk whole(int premium, int estimate) {
        ReinsuranceDesk x = desk();
        x.premium(0, premium);
        x.treaty(0, ALL, 1000, 0, 0);
        add(x, 0, 0, estimate);
        return x;
    }

    /** "at most 9,000,000" */
    private static void ratioAtMost() {
        int[][] rows = {{8_999_999, 8_999_999}, {9_000_000, 9_000_000}, {9_000_001, 9_000_000}, {GREATEST, 9_000_000}};
        for (int[] row : rows) {
            Check.answers("ratio of " + row[0], row[1], () -> whole(ALL, row[0]).total(0, 2));
        }
    }

    /** "0 without a premium" */
    private static void ratioWithoutPremium() {
        Check.answers("ratio without a premium", 0, () -> whole(0, GREATEST).total(0, 2));
        Check.answers("commission without a premium", 0, () -> whole(0, GREATEST).total(0, 3));
        Check.answers("ratio with the least premium", 9_000_000, () -> whole(1, GREATEST).total(0, 2));
        Check.answers("ratio of nothing taken", 0, () -> whole(1, 0).total(0, 2));
        ReinsuranceDesk x = desk();
        x.premium(0, 1);
        x.treaty(0, 500_000, 1000, 0, 0);
        add(x, 0, 0, 100);
        Check.answers("a premium of which nothing goes to the treaty", 0, () -> x.total(0, 2));
        x.premium(0, 2);
        Check.answers("a premium of which one cent goes to it", 9_000_000, () -> x.total(0, 2));
    }

    /** "what it takes over its premium, in millionths", rounded down */
    private static void ratioRounded() {
        Check.answers("one third", 333_333, () -> whole(3, 1).total(0, 2));
        Check.answers("two thirds", 666_666, () -> whole(3, 2).total(0, 2));
        Check.answers("three thirds", 1_000_000, () -> whole(3, 3).total(0, 2));
        Check.answers("less than a millionth", 0, () -> whole(GREATEST, 999).total(0, 2));
        Check.answers("a millionth", 1, () -> whole(GREATEST, 1000).total(0, 2));
    }

    /** "300,000 for a ratio up to 400,000, less by what the ratio is above, at least 100,000" */
    private static void commissionByRatio() {
        int[][] rows = {{0, 300_000}, {399_999, 300_000}, {400_000, 300_000}, {400_001, 299_999}, {400_002, 299_998},
            {599_998, 100_002}, {599_999, 100_001}, {600_000, 100_000}, {600_001, 100_000}, {700_000, 100_000},
            {9_000_000, 100_000}, {GREATEST, 100_000}};
        for (int[] row : rows) {
            Check.answers("commission for a ratio of " + row[0], row[1], () -> whole(ALL, row[0]).total(0, 3));
        }
    }

    /** "its premium times a part", rounded down */
    private static void commissionRounded() {
        int[][] rows = {{3, 0, 0}, {4, 0, 1}, {6, 0, 1}, {7, 0, 2}, {9, 9, 0}, {10, 10, 1}, {19, 19, 1}, {20, 20, 2}};
        for (int[] row : rows) {
            String name = "commission of a premium of " + row[0] + ", a claim of " + row[1];
            Check.answers(name, row[2], () -> whole(row[0], row[1]).total(0, 3));
        }
    }

    /** "1 its premium (0 of kinds above 1)", "its commission (of kinds 0, 1)" */
    private static void ratioOfKinds() {
        int[][] treaties = {{0, ALL, GREATEST, 0, 0}, {10, 500, 1, 0, 0}, {20, 0, 1000, 5, 0}, {30, 0, 1000, 5, 0},
            {40, 0, GREATEST, 0, 0}};
        int[][] due = {{300, 1000, 300_000, 300}, {150, 500, 300_000, 150}, {300, 0, 0, 0}, {300, 0, 0, 0}, {300, 0, 0, 0}};
        for (int kind = 0; kind < 5; kind++) {
            int[] t = treaties[kind];
            ReinsuranceDesk x = desk();
            x.premium(0, 1000);
            x.treaty(t[0], t[1], t[2], t[3], t[4]);
            add(x, 1, 0, 300);
            for (int what = 0; what < 4; what++) {
                int w = what;
                Check.answers("total of kind " + kind + ", what " + w, due[kind][w], () -> x.total(0, w));
            }
        }
    }

    private static void bills() {
        billRoundsEach();
        billBooks();
        billOfOpenYears();
    }

    /** "each of these of each treaty rounded down by itself" */
    private static void billRoundsEach() {
        ReinsuranceDesk x = desk();
        x.premium(0, 15);
        x.treaty(0, 200_000, 1000, 0, 0);
        x.treaty(20, 0, 10, 1, 0);
        x.treaty(20, 0, 11, 0, 0);
        for (int treaty = 0; treaty < 3; treaty++) {
            x.share(treaty, 0, 500_000);
        }
        add(x, 0, 0, 75);
        Check.answers("taken by the quota", 15, () -> x.total(0, 0));
        Check.answers("premium of the quota", 3, () -> x.total(0, 1));
        Check.answers("7 less 1 of 15 and 3, 5 less 0 of 10 and 1, 5 of 11", 7 - 1 + 5 + 5, () -> x.bill(0));
        x.premium(0, 20);
        Check.answers("one cent of premium more", -1, () -> x.bill(0));
        x.share(1, 0, ALL);
        Check.answers("all of the second: 10 less 1", 9 - 5, () -> x.bill(0));
    }

    /** "bill() answers the difference to what was billed, and books it" */
    private static void billBooks() {
        ReinsuranceDesk x = whole(0, 10);
        x.share(0, 0, 500_000);
        x.share(0, 5, 500_000);
        Check.answers("the first bill", 5, () -> x.bill(0));
        Check.answers("nothing new", 0, () -> x.bill(0));
        x.estimate(0, 11);
        Check.answers("less than a cent", 0, () -> x.bill(0));
        x.estimate(0, 12);
        Check.answers("a cent", 1, () -> x.bill(0));
        x.estimate(0, 11);
        Check.answers("a cent back", -1, () -> x.bill(0));
        x.strike(0);
        Check.answers("all back", -5, () -> x.bill(0));
        Check.answers("another has nothing to give back", 0, () -> x.bill(5));
    }

    /** "for all years that are open" */
    private static void billOfOpenYears() {
        ReinsuranceDesk x = new ReinsuranceDesk();
        int together = 0;
        for (int year = 0; year < 4; year++) {
            x.risk(year, 1000, year);
            x.estimate(x.claim(year, 0, 0), 10 + year);
            x.share(x.treaty(year, ALL, 1000, 0, 0), 0, ALL);
            together += 10 + year;
        }
        int all = together;
        Check.answers("all years", all, () -> x.bill(0));
        for (int year = 0; year < 4; year++) {
            int y = year;
            x.year(y, false);
            Check.answers("year " + y + " is closed", -10 - y, () -> x.bill(0));
            Check.answers("year " + y + " is closed, and booked", 0, () -> x.bill(0));
        }
        for (int year = 0; year < 4; year++) {
            x.year(year, true);
        }
        Check.answers("all years again", all, () -> x.bill(0));
        x.year(0, false);
        x.year(0, true);
        Check.answers("closed and opened between two bills", 0, () -> x.bill(0));
    }

    /** "nothing of a closed year can change": its answers stay while another year's claims, shares and years change */
    private static void closedYears() {
        ReinsuranceDesk x = desk();
        x.risk(1, 1000, 1);
        x.treaty(30, 0, 50, 0, 0);
        x.treaty(31, 0, 50, 0, 0);
        add(x, 1, 10, 80);
        x.estimate(x.claim(1, 1, 5), 80);
        x.year(0, false);
        Check.answers("dissolved in the open year", 1, () -> x.dissolve(1, 1));
        x.strike(1);
        x.treaty(41, 0, 1, 0, 0);
        x.premium(1, 9);
        Check.answers("window of the closed year", 10, () -> x.window(0, 1));
        Check.answers("ceded in the closed year", 50, () -> x.ceded(0, 0));
        Check.answers("kept in the closed year", 30, () -> x.kept(0));
        x.year(0, true);
        Check.answers("opened, as it was", 50, () -> x.ceded(0, 0));
        Check.answers("opened, it can change", 1, () -> x.dissolve(1, 0));
        Check.answers("and has changed", 80, () -> x.kept(0));
    }

    private static void nothingThere() {
        nothingOfAnotherYear();
        noWindow();
        nothingToDissolve();
        nothingWithoutClaims();
    }

    /** "What a treaty takes of a claim (0 of another year ..)", for each kind */
    private static void nothingOfAnotherYear() {
        int[][] treaties = {{0, ALL, GREATEST, 0, 0}, {10, 500, 1, 0, 0}, {20, 0, 1000, 5, 0}, {30, 0, 1000, 5, 0},
            {40, 0, GREATEST, 0, 0}};
        int[] due = {300, 150, 300, 300, 300};
        for (int kind = 0; kind < 5; kind++) {
            int[] t = treaties[kind];
            for (int year = 0; year < 4; year++) {
                ReinsuranceDesk x = desk();
                x.treaty(t[0] + year, t[1], t[2], t[3], t[4]);
                add(x, 1, 0, 300);
                String name = ", kind " + kind + ", year " + year;
                int takes = year == 0 ? due[kind] : 0;
                Check.answers("ceded" + name, takes, () -> x.ceded(0, 0));
                Check.answers("whatIf" + name, takes, () -> x.whatIf(0, 300, 0));
                Check.answers("total" + name, takes, () -> x.total(0, 0));
                Check.answers("kept" + name, 300 - takes, () -> x.kept(0));
            }
        }
    }

    /** "-1 when there are no claims of it" */
    private static void noWindow() {
        ReinsuranceDesk x = desk();
        x.risk(1, 1000, 1);
        x.treaty(30, 0, 1, 0, 0);
        for (int event = 1; event <= 9; event++) {
            int e = event;
            Check.answers("no claims, event " + e, -1, () -> x.window(0, e));
        }
        x.claim(0, 0, 3);
        x.claim(0, 2, 3);
        x.claim(1, 1, 3);
        Check.answers("claims of no event, of another event, of another year", -1, () -> x.window(0, 1));
        x.claim(0, 1, 0);
        Check.answers("one claim of nothing, at hour 0", 0, () -> x.window(0, 1));
        x.strike(3);
        Check.answers("one claim, struck", -1, () -> x.window(0, 1));
        x.claim(0, 1, 7);
        Check.answers("another claim", 7, () -> x.window(0, 1));
        x.dissolve(1, 1);
        Check.answers("dissolved in another year", 7, () -> x.window(0, 1));
        x.dissolve(1, 0);
        Check.answers("dissolved", -1, () -> x.window(0, 1));
        Check.answers("another event is not", 3, () -> x.window(0, 2));
    }

    /** "its claims (that are not struck) have no event any more: how many" */
    private static void nothingToDissolve() {
        ReinsuranceDesk x = desk();
        x.risk(1, 1000, 1);
        Check.answers("no claims", 0, () -> x.dissolve(1, 0));
        x.claim(0, 0, 0);
        x.claim(0, 2, 0);
        x.claim(1, 1, 0);
        Check.answers("claims of no event, of another event, of another year", 0, () -> x.dissolve(1, 0));
        x.claim(0, 1, 0);
        x.claim(0, 1, 0);
        x.claim(0, 1, 0);
        x.strike(4);
        Check.answers("three, one of them struck", 2, () -> x.dissolve(1, 0));
        Check.answers("none any more", 0, () -> x.dissolve(1, 0));
        Check.answers("of another year", 1, () -> x.dissolve(1, 1));
        Check.answers("of another event", 1, () -> x.dissolve(2, 0));
    }

    /** A treaty of each kind without any claims. */
    private static void nothingWithoutClaims() {
        ReinsuranceDesk x = new ReinsuranceDesk();
        for (int kind = 0; kind < 5; kind++) {
            x.treaty(10 * kind, 1, 7, 0, 0);
            x.share(kind, 0, ALL);
        }
        for (int treaty = 0; treaty < 5; treaty++) {
            int t = treaty;
            for (int what = 0; what < 4; what++) {
                int w = what;
                Check.answers("empty total of " + t + ", what " + w, 0, () -> x.total(t, w));
            }
            Check.answers("empty recovered of " + t, 0, () -> x.due(t, 0, 0));
            Check.answers("empty reinstatement of " + t, 0, () -> x.due(t, 0, 1));
        }
        Check.answers("all is left of kind 2", 7, () -> x.left(2));
        Check.answers("all is left of kind 3", 7, () -> x.left(3));
        Check.answers("empty bill", 0, () -> x.bill(0));
    }

    private static void wideNumbers() {
        wideExcesses();
        widePartsOfClaims();
        wideBill();
    }

    /** b * (1 + c), what is taken and what is left are above all int numbers. */
    private static void wideExcesses() {
        for (int kind = 2; kind < 4; kind++) {
            ReinsuranceDesk x = desk();
            x.treaty(10 * kind, 0, GREATEST, 5, GREATEST);
            x.share(0, 5, ALL);
            Check.answers("six times b is left, kind " + kind, 6_000_000_000L, () -> x.left(0));
            for (int claim = 0; claim < 7; claim++) {
                add(x, 1 + claim, 0, GREATEST);
            }
            Check.answers("nothing is left, kind " + kind, 0, () -> x.left(0));
            Check.answers("six times b is taken, kind " + kind, 6_000_000_000L, () -> x.due(0, 5, 0));
            Check.answers("five times a tenth of b, kind " + kind, 500_000_000, () -> x.due(0, 5, 1));
            x.estimate(6, GREATEST - 1);
            Check.answers("one cent is left, kind " + kind, 1, () -> x.left(0));
        }
    }

    /** What is kept times what is taken, and the sum of all that is kept, are above all int numbers. */
    private static void widePartsOfClaims() {
        for (int kind = 3; kind < 5; kind++) {
            ReinsuranceDesk x = desk();
            x.treaty(10 * kind, GREATEST, GREATEST, 0, 0);
            for (int claim = 0; claim < 39; claim++) {
                add(x, 1, claim, GREATEST);
            }
            add(x, 1, 0, GREATEST - 1);
            for (int claim = 0; claim < 40; claim++) {
                int c = claim;
                Check.answers("a fortieth, kind " + kind + ", claim " + c, 25_000_000, () -> x.ceded(c, 0));
                Check.answers("kept, kind " + kind + ", claim " + c, c < 39 ? 975_000_000 : 974_999_999, () -> x.kept(c));
            }
        }
    }

    /** The greatest bill and the least. */
    private static void wideBill() {
        ReinsuranceDesk x = new ReinsuranceDesk();
        x.treaty(0, ALL, GREATEST, 0, 0);
        x.share(0, 0, ALL);
        for (int risk = 0; risk < 12; risk++) {
            x.risk(risk, GREATEST, 0);
            x.premium(risk, GREATEST);
        }
        Check.answers("premiums less commissions", -8_400_000_000L, () -> x.bill(0));
        for (int claim = 0; claim < 40; claim++) {
            add(x, 0, 0, GREATEST);
        }
        Check.answers("ratio of forty claims and twelve premiums", 3_333_333, () -> x.total(0, 2));
        Check.answers("claims, and commissions down to a third", 37_600_000_000L, () -> x.bill(0));
    }

    /** "An object is used for at most 512 calls": the last of them is answered like the first. */
    private static void lastCall() {
        ReinsuranceDesk x = whole(0, 1);
        x.share(0, 0, ALL);
        for (int call = 6; call < 511; call++) {
            x.estimate(0, call);
        }
        Check.answers("the last call", 510, () -> x.bill(0));
    }
}
