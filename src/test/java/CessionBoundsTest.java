/**
 * The document's terms, what quotas, surpluses and excesses of a risk take: one method for each sentence that names a
 * boundary, on both sides of it: the last that is cut and the first that isn't.
 */
public final class CessionBoundsTest {
    private static final int GREATEST = 1_000_000_000;
    private static final int ALL = 1_000_000;

    private CessionBoundsTest() {
    }

    public static void main(String[] args) {
        struckCountsNowhere();
        orderOfTreaties();
        quota();
        surplus();
        excessOfRisk();
        whatIf();
        nothingOfAnotherYear();
        wideExcesses();
        Check.end();
    }

    /** "a claim can be STRUCK (void: it counts nowhere any more)" */
    private static void struckCountsNowhere() {
        int[][] treaties = {{0, ALL, GREATEST, 0, 0}, {10, 500, 1, 0, 0}, {20, 0, GREATEST, 0, 10},
            {30, 0, GREATEST, 0, 10}, {40, 100, GREATEST, 0, 0}};
        int[] before = {300, 150, 290, 290, 200};
        int[] behind = {200, 100, 190, 190, 100};
        for (int kind = 0; kind < 5; kind++) {
            int[] t = treaties[kind];
            ReinsuranceDesk x = Desks.desk();
            x.treaty(t[0], t[1], t[2], t[3], t[4]);
            x.share(0, 0, ALL);
            Desks.add(x, 1, 0, 100);
            Desks.add(x, 1, 0, 200);
            Check.answers("not struck, kind " + kind, before[kind], () -> x.total(0, 0));
            Check.answers("billed, kind " + kind, before[kind], () -> x.bill(0));
            x.strike(0);
            Check.answers("struck, kind " + kind, behind[kind], () -> x.total(0, 0));
            Check.answers("billed anew, kind " + kind, behind[kind] - before[kind], () -> x.bill(0));
            Check.answers("kept of a struck one, kind " + kind, 0, () -> x.kept(0));
            Check.answers("ceded of a struck one, kind " + kind, 0, () -> x.ceded(0, 0));
            Check.answers("an event has no struck ones, kind " + kind, 1, () -> x.dissolve(1, 0));
        }
    }

    /** "The treaties of a year come by kinds, then numbers" */
    private static void orderOfTreaties() {
        int[][] treaties = {{0, 500_000, GREATEST, 0, 0}, {10, 500, 1, 0, 0}, {20, 0, 100, 0, 0}, {30, 0, 100, 0, 0},
            {40, 0, 100, 0, 0}};
        for (int first = 0; first < 5; first++) {
            for (int second = 0; second < 5; second++) {
                int[] f = treaties[first];
                int[] s = treaties[second];
                ReinsuranceDesk x = Desks.desk();
                x.treaty(f[0], f[1], f[2], f[3], f[4]);
                x.treaty(s[0], s[1], s[2], s[3], s[4]);
                Desks.add(x, 1, 0, 80);
                boolean told = first <= second;
                int ahead = 80 / (Math.min(first, second) < 2 ? 2 : 1);
                int after = (80 - ahead) / (Math.max(first, second) < 2 ? 2 : 1);
                String name = "kind " + first + ", then kind " + second;
                Desks.cededAre(name, x, 0, told ? ahead : after);
                Desks.cededAre(name, x, 1, told ? after : ahead);
            }
        }
    }

    private static void quota() {
        quotaOfSum();
        quotaRoundsThePart();
        quotaRoundsTheClaim();
        quotaOfAll();
    }

    /** "the part a when the risk's sum is not above b, otherwise the part a * b / sum" */
    private static void quotaOfSum() {
        int[][] rows = {{1, 1_000_000}, {999, 1_000_000}, {1000, 1_000_000}, {1001, 999_000}, {2000, 500_000}, {GREATEST, 1}};
        for (int[] row : rows) {
            ReinsuranceDesk x = new ReinsuranceDesk();
            x.risk(0, row[0], 0);
            x.treaty(0, ALL, 1000, 0, 0);
            Desks.add(x, 0, 0, ALL);
            Desks.cededAre("quota up to 1000, sum " + row[0], x, 0, row[1]);
        }
    }

    /** "Quotients are rounded down": the part a * b / sum, before it is taken of the claim */
    private static void quotaRoundsThePart() {
        ReinsuranceDesk x = new ReinsuranceDesk();
        x.risk(0, 3, 0);
        x.treaty(0, ALL, 1, 0, 0);
        Desks.add(x, 0, 0, 3);
        Desks.add(x, 0, 0, 4);
        Desks.add(x, 0, 0, 3_000_000);
        Desks.cededAre("333,333 parts", x, 0, 0, 1, 999_999);
        ReinsuranceDesk y = new ReinsuranceDesk();
        y.risk(0, GREATEST, 0);
        y.risk(1, 999_999, 0);
        y.treaty(0, 1, GREATEST - 1, 0, 0);
        y.treaty(0, ALL, 999_998, 0, 0);
        Desks.add(y, 0, 0, GREATEST);
        y.estimate(y.claim(1, 0, 0), GREATEST);
        Desks.cededAre("a part less than a millionth", y, 0, 0, 1000);
        Desks.cededAre("a part just below the next millionth", y, 1, 999_000, 999_997_000);
    }

    /** "Quotients are rounded down": the part of the claim */
    private static void quotaRoundsTheClaim() {
        ReinsuranceDesk x = Desks.desk();
        x.treaty(0, 250_000, 1000, 0, 0);
        for (int amount : new int[] {0, 3, 4, 7, 8}) {
            Desks.add(x, 0, 0, amount);
        }
        Desks.cededAre("a quarter", x, 0, 0, 0, 1, 1, 2);
    }

    /** "a part 1 .. 1,000,000": the least and the greatest */
    private static void quotaOfAll() {
        ReinsuranceDesk x = Desks.desk();
        x.treaty(0, 1, 1000, 0, 0);
        x.treaty(0, ALL, 1000, 0, 0);
        x.treaty(0, ALL, 1000, 0, 0);
        Desks.add(x, 0, 0, 999_999);
        Desks.add(x, 0, 0, 1_000_000);
        Desks.cededAre("a millionth", x, 0, 0, 1);
        Desks.cededAre("all that is left", x, 1, 999_999, 999_999);
        Desks.cededAre("behind all", x, 2, 0, 0);
        Check.answers("nothing is kept", 0, () -> x.kept(1));
    }

    private static void surplus() {
        surplusAboveTheLine();
        surplusAtMostItsLines();
        surplusRoundsThePart();
        surplusWithMostLines();
    }

    /** "x is what the sum is above a" */
    private static void surplusAboveTheLine() {
        int[][] rows = {{1, 0}, {499, 0}, {500, 0}, {501, 1996}, {502, 3984}, {1000, 500_000}};
        for (int[] row : rows) {
            ReinsuranceDesk x = new ReinsuranceDesk();
            x.risk(0, row[0], 0);
            x.treaty(10, 500, 1, 0, 0);
            Desks.add(x, 0, 0, ALL);
            Desks.cededAre("surplus above 500, sum " + row[0], x, 0, row[1]);
        }
    }

    /** "at most a * b" */
    private static void surplusAtMostItsLines() {
        int[][] rows = {{299, 665_551}, {300, 666_666}, {301, 664_451}, {2000, 100_000}, {GREATEST, 0}};
        for (int[] row : rows) {
            ReinsuranceDesk x = new ReinsuranceDesk();
            x.risk(0, row[0], 0);
            x.treaty(10, 100, 2, 0, 0);
            Desks.add(x, 0, 0, ALL);
            Desks.cededAre("surplus of two lines of 100, sum " + row[0], x, 0, row[1]);
        }
    }

    /** "Quotients are rounded down": the part 1,000,000 * x / sum, and the part of the claim */
    private static void surplusRoundsThePart() {
        ReinsuranceDesk x = new ReinsuranceDesk();
        x.risk(0, 3, 0);
        x.treaty(10, 1, 20, 0, 0);
        Desks.add(x, 0, 0, 3);
        Desks.add(x, 0, 0, 3_000_000);
        Desks.add(x, 0, 0, 1);
        Desks.add(x, 0, 0, 2);
        Desks.cededAre("666,666 parts", x, 0, 1, 1_999_998, 0, 1);
    }

    /** "how many lines, 1 .. 20": the most of them with the greatest line are above all int numbers */
    private static void surplusWithMostLines() {
        ReinsuranceDesk x = new ReinsuranceDesk();
        x.risk(0, GREATEST, 0);
        x.treaty(10, GREATEST, 20, 0, 0);
        x.treaty(10, GREATEST - 1, 20, 0, 0);
        x.treaty(10, 500_000_000, 20, 0, 0);
        Desks.add(x, 0, 0, GREATEST);
        Desks.cededAre("the sum is the line", x, 0, 0);
        Desks.cededAre("one cent above the line, less than a millionth", x, 1, 0);
        Desks.cededAre("half of the sum", x, 2, 500_000_000);
    }

    private static void excessOfRisk() {
        excessAboveA();
        excessAtMostB();
        excessDeductible();
        excessOfTheYear();
        excessByHoursThenNumbers();
        excessOfManyHours();
    }

    /** "of each what is kept above a" */
    private static void excessAboveA() {
        ReinsuranceDesk x = Desks.desk();
        x.treaty(20, 100, GREATEST, 0, 0);
        for (int amount : new int[] {0, 99, 100, 101, 102}) {
            Desks.add(x, 0, 0, amount);
        }
        Desks.cededAre("above 100", x, 0, 0, 0, 0, 1, 2);
        ReinsuranceDesk y = Desks.desk();
        y.treaty(20, 0, GREATEST, 0, 0);
        y.treaty(20, GREATEST, GREATEST, 0, 0);
        Desks.add(y, 0, 0, 1);
        Desks.cededAre("above nothing", y, 0, 1);
        ReinsuranceDesk z = Desks.desk();
        z.treaty(20, GREATEST, GREATEST, 0, 0);
        z.treaty(20, GREATEST - 1, GREATEST, 0, 0);
        Desks.add(z, 0, 0, GREATEST);
        Desks.cededAre("above the greatest", z, 0, 0);
        Desks.cededAre("above one less", z, 1, 1);
    }

    /** "at most b" */
    private static void excessAtMostB() {
        ReinsuranceDesk x = Desks.desk();
        x.treaty(20, 100, 50, 5, 0);
        for (int amount : new int[] {149, 150, 151, GREATEST}) {
            Desks.add(x, 0, 0, amount);
        }
        Desks.cededAre("at most 50", x, 0, 49, 50, 50, 50);
    }

    /** "the first d of all these together is not taken" */
    private static void excessDeductible() {
        ReinsuranceDesk x = Desks.desk();
        x.treaty(20, 100, 50, 5, 60);
        Desks.add(x, 0, 0, 130);
        Desks.add(x, 0, 1, 130);
        Desks.cededAre("together 60", x, 0, 0, 0);
        x.estimate(1, 131);
        Desks.cededAre("together 61", x, 0, 0, 1);
        x.estimate(0, GREATEST);
        Desks.cededAre("of each no more than b goes to it", x, 0, 0, 21);
        Desks.add(x, 0, 2, 110);
        Desks.cededAre("behind it all is taken", x, 0, 0, 21, 10);
        ReinsuranceDesk y = Desks.desk();
        y.treaty(20, 0, GREATEST, 0, GREATEST);
        Desks.add(y, 0, 0, GREATEST);
        Desks.cededAre("the greatest deductible", y, 0, 0);
        Desks.add(y, 0, 0, 1);
        Desks.cededAre("one cent more", y, 0, 0, 1);
    }

    /** "no more than b * (1 + c) of the year together", for each number of reinstatements */
    private static void excessOfTheYear() {
        for (int c = 0; c <= 5; c++) {
            ReinsuranceDesk x = Desks.desk();
            x.treaty(20, 100, 50, c, 30);
            for (int claim = 0; claim < 1 + c; claim++) {
                Desks.add(x, 0, claim, 150);
            }
            int last = Desks.add(x, 0, 99, 129);
            String name = ", reinstatements " + c;
            Check.answers("one cent less" + name, 29, () -> x.ceded(last, 0));
            Check.answers("one cent is left" + name, 1, () -> x.left(0));
            x.estimate(last, 130);
            Check.answers("all of it" + name, 30, () -> x.ceded(last, 0));
            Check.answers("nothing is left" + name, 0, () -> x.left(0));
            x.estimate(last, 131);
            Check.answers("one cent more is cut" + name, 30, () -> x.ceded(last, 0));
            Check.answers("no less than nothing is left" + name, 0, () -> x.left(0));
            Check.answers("of the year together" + name, 50 * (1 + c), () -> x.total(0, 0));
            int behind = Desks.add(x, 0, 100, 150);
            Check.answers("nothing behind it" + name, 0, () -> x.ceded(behind, 0));
        }
    }

    /** "claims in order of hours, then numbers" */
    private static void excessByHoursThenNumbers() {
        ReinsuranceDesk x = Desks.desk();
        x.treaty(20, 0, 100, 0, 0);
        Desks.add(x, 0, 50, 70);
        Desks.add(x, 0, 50, 70);
        Desks.cededAre("the same hour, the lowest number first", x, 0, 70, 30);
        Desks.add(x, 0, 49, 70);
        Desks.cededAre("an hour before, the highest number", x, 0, 30, 0, 70);
        Desks.add(x, 0, 51, 70);
        Desks.add(x, 0, 0, 70);
        Desks.add(x, 0, 100_000, 70);
        Desks.cededAre("the first hour", x, 0, 0, 0, 30, 0, 70, 0);
        x.strike(4);
        Desks.cededAre("the first hour struck", x, 0, 30, 0, 70, 0, 0, 0);
    }

    /** "claims in order of hours, then numbers": forty of them, each hour twice, told in another order */
    private static void excessOfManyHours() {
        for (int limit = 1; limit <= 40; limit++) {
            ReinsuranceDesk x = Desks.desk();
            x.treaty(20, 0, limit, 0, 0);
            for (int claim = 0; claim < 40; claim++) {
                Desks.add(x, 0, claim * 7 % 20, 1);
            }
            for (int claim = 0; claim < 40; claim++) {
                int c = claim;
                int place = 2 * (c * 7 % 20) + c / 20;
                Check.answers("limit " + limit + ", claim " + c, place < limit ? 1 : 0, () -> x.ceded(c, 0));
            }
        }
    }

    private static void whatIf() {
        whatIfByBounds();
        whatIfOfOthers();
    }

    /** "What a treaty would take of a claim if its estimate were so": with the bounds that an estimate has */
    private static void whatIfByBounds() {
        int[][] treaties = {{0, 500_000, 1000, 0, 0}, {10, 500, 1, 0, 0}, {20, 100, 50, 0, 10}, {30, 100, 50, 0, 10},
            {40, 100, 50, 0, 0}};
        int[] amounts = {0, 1, 2, 100, 101, 110, 111, 149, 150, 151, GREATEST};
        int[][] due = {{0, 0, 1, 50, 50, 55, 55, 74, 75, 75, 500_000_000},
            {0, 0, 1, 50, 50, 55, 55, 74, 75, 75, 500_000_000},
            {0, 0, 0, 0, 0, 0, 1, 39, 40, 40, 40}, {0, 0, 0, 0, 0, 0, 1, 39, 40, 40, 40},
            {0, 0, 0, 0, 1, 10, 11, 49, 50, 50, 50}};
        for (int kind = 0; kind < 5; kind++) {
            int[] t = treaties[kind];
            ReinsuranceDesk x = Desks.desk();
            x.treaty(t[0], t[1], t[2], t[3], t[4]);
            Desks.add(x, 1, 0, 77);
            for (int i = 0; i < amounts.length; i++) {
                int amount = amounts[i];
                String name = "kind " + kind + ", amount " + amount;
                Check.answers("whatIf, " + name, due[kind][i], () -> x.whatIf(0, amount, 0));
                x.estimate(0, amount);
                Check.answers("and if it is so, " + name, due[kind][i], () -> x.ceded(0, 0));
            }
        }
    }

    /** The others are as they are: what they leave of a limit, and the window that the claim would make the greatest */
    private static void whatIfOfOthers() {
        ReinsuranceDesk x = Desks.desk();
        x.treaty(20, 0, 100, 0, 0);
        x.treaty(30, 0, 100, 0, 0);
        Desks.add(x, 1, 0, 90);
        Desks.add(x, 1, 1, 10);
        Desks.cededAre("nothing is left", x, 0, 90, 10);
        Check.answers("no more than the other leaves", 10, () -> x.whatIf(1, 11, 0));
        Check.answers("the first takes it all", 100, () -> x.whatIf(0, 100, 0));
        Check.answers("what is kept of it goes to the next", 1, () -> x.whatIf(1, 11, 1));
        ReinsuranceDesk y = Desks.desk();
        y.treaty(30, 0, 100, 0, 0);
        Desks.add(y, 1, 0, 90);
        Desks.add(y, 1, 500, 10);
        Check.answers("the same sum, the earliest window", 0, () -> y.whatIf(1, 90, 0));
        Check.answers("one cent more, its window", 91, () -> y.whatIf(1, 91, 0));
        Check.answers("the window is as it was", 0, () -> y.window(0, 1));
    }

    /** "What a treaty takes of a claim (0 of another year ..)", for each kind */
    private static void nothingOfAnotherYear() {
        int[][] treaties = {{0, ALL, GREATEST, 0, 0}, {10, 500, 1, 0, 0}, {20, 0, 1000, 5, 0}, {30, 0, 1000, 5, 0},
            {40, 0, GREATEST, 0, 0}};
        int[] due = {300, 150, 300, 300, 300};
        for (int kind = 0; kind < 5; kind++) {
            int[] t = treaties[kind];
            for (int year = 0; year < 4; year++) {
                ReinsuranceDesk x = Desks.desk();
                x.treaty(t[0] + year, t[1], t[2], t[3], t[4]);
                Desks.add(x, 1, 0, 300);
                String name = ", kind " + kind + ", year " + year;
                int takes = year == 0 ? due[kind] : 0;
                Check.answers("ceded" + name, takes, () -> x.ceded(0, 0));
                Check.answers("whatIf" + name, takes, () -> x.whatIf(0, 300, 0));
                Check.answers("total" + name, takes, () -> x.total(0, 0));
                Check.answers("kept" + name, 300 - takes, () -> x.kept(0));
            }
        }
    }

    /** b * (1 + c), what is taken and what is left are above all int numbers. */
    private static void wideExcesses() {
        for (int kind = 2; kind < 4; kind++) {
            ReinsuranceDesk x = Desks.desk();
            x.treaty(10 * kind, 0, GREATEST, 5, GREATEST);
            x.share(0, 5, ALL);
            Check.answers("six times b is left, kind " + kind, 6_000_000_000L, () -> x.left(0));
            for (int claim = 0; claim < 7; claim++) {
                Desks.add(x, 1 + claim, 0, GREATEST);
            }
            Check.answers("nothing is left, kind " + kind, 0, () -> x.left(0));
            Check.answers("six times b is taken, kind " + kind, 6_000_000_000L, () -> x.due(0, 5, 0));
            Check.answers("five times a tenth of b, kind " + kind, 500_000_000, () -> x.due(0, 5, 1));
            x.estimate(6, GREATEST - 1);
            Check.answers("one cent is left, kind " + kind, 1, () -> x.left(0));
        }
    }
}
