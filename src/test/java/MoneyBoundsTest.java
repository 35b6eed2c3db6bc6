/**
 * The document's terms, what is 0 at first, premiums, shares, reinstatement premiums, ratios, commissions, bills and
 * closed years: one method for each sentence that names a boundary, on both sides of it: the last that is cut and the
 * first that isn't.
 */
public final class MoneyBoundsTest {
    private static final int GREATEST = 1_000_000_000;
    private static final int ALL = 1_000_000;

    private MoneyBoundsTest() {
    }

    public static void main(String[] args) {
        zeroAtFirst();
        premiums();
        reinsurers();
        ratioAndCommission();
        bills();
        closedYears();
        nothingWithoutClaims();
        lastCall();
        Check.end();
    }

    private static void zeroAtFirst() {
        premiumAtFirst();
        estimateAtFirst();
        shareAtFirst();
    }

    /** "a PREMIUM (0 at first)" */
    private static void premiumAtFirst() {
        ReinsuranceDesk x = Desks.desk();
        x.treaty(0, ALL, GREATEST, 0, 0);
        Check.answers("premium at first", 0, () -> x.total(0, 1));
        x.premium(0, 1);
        Check.answers("premium told", 1, () -> x.total(0, 1));
        x.premium(0, 0);
        Check.answers("premium told as nothing", 0, () -> x.total(0, 1));
    }

    /** "an ESTIMATE (0 at first)" */
    private static void estimateAtFirst() {
        ReinsuranceDesk x = Desks.desk();
        x.claim(0, 0, 0);
        Check.answers("estimate at first", 0, () -> x.kept(0));
        x.estimate(0, 1);
        Check.answers("estimate told", 1, () -> x.kept(0));
        Check.answers("a new claim beside it", 1, () -> x.claim(0, 0, 0));
        Check.answers("its estimate at first", 0, () -> x.kept(1));
    }

    /** Nothing is said of shares that are not told: none has one. */
    private static void shareAtFirst() {
        ReinsuranceDesk x = Desks.desk();
        x.treaty(0, ALL, GREATEST, 0, 0);
        Desks.add(x, 0, 0, 1_000_000);
        for (int reinsurer = 0; reinsurer < 6; reinsurer++) {
            int r = reinsurer;
            Check.answers("share at first of " + r, 0, () -> x.due(0, r, 0));
            Check.answers("bill at first of " + r, 0, () -> x.bill(r));
        }
        x.share(0, 4, 1);
        Check.answers("the least share", 1, () -> x.due(0, 4, 0));
    }

    private static void premiums() {
        premiumsLikewise();
        premiumsRounded();
    }

    /** "A risk's PREMIUM goes to quotas and surpluses likewise": with the same bounds of sums */
    private static void premiumsLikewise() {
        int[][] rows = {{1000, 1_000_000, 0}, {1001, 999_000, 0}, {2000, 500_000, 250_000}, {4000, 250_000, 375_000}};
        for (int[] row : rows) {
            ReinsuranceDesk x = new ReinsuranceDesk();
            x.risk(0, row[0], 0);
            x.premium(0, ALL);
            x.treaty(10, 1000, 2, 0, 0);
            x.treaty(0, ALL, 1000, 0, 0);
            Check.answers("premium of a quota, sum " + row[0], row[1], () -> x.total(1, 1));
            Check.answers("premium of a surplus behind it, sum " + row[0], row[2], () -> x.total(0, 1));
        }
        ReinsuranceDesk y = new ReinsuranceDesk();
        y.risk(0, 501, 0);
        y.risk(1, 500, 0);
        y.premium(0, ALL);
        y.premium(1, ALL);
        y.treaty(10, 500, 20, 0, 0);
        Check.answers("premium of the risk above the line alone", 1996, () -> y.total(0, 1));
    }

    /** "Quotients are rounded down": of each risk by itself */
    private static void premiumsRounded() {
        ReinsuranceDesk x = new ReinsuranceDesk();
        x.treaty(0, 500_000, GREATEST, 0, 0);
        for (int risk = 0; risk < 12; risk++) {
            x.risk(risk, 1 + risk, 0);
            x.premium(risk, 1);
        }
        Check.answers("twelve halves of a cent", 0, () -> x.total(0, 1));
        x.premium(11, 2);
        Check.answers("one whole cent", 1, () -> x.total(0, 1));
    }

    private static void reinsurers() {
        recoveredRounded();
        reinstatementOfB();
        reinstatementTimesTaken();
        reinstatementShare();
        reinstatementAtMost();
        reinstatementOfKinds();
    }

    /** "its share of all that the treaty takes (of its sum)", rounded down once */
    private static void recoveredRounded() {
        ReinsuranceDesk x = Desks.desk();
        x.treaty(0, ALL, 1000, 0, 0);
        x.share(0, 0, 500_000);
        x.share(0, 1, 499_999);
        x.share(0, 2, 1);
        Desks.add(x, 0, 0, 1);
        Check.answers("half of one cent", 0, () -> x.due(0, 0, 0));
        Desks.add(x, 0, 0, 1);
        Check.answers("half of two cents, of two claims", 1, () -> x.due(0, 0, 0));
        Check.answers("a part less than half", 0, () -> x.due(0, 1, 0));
        x.estimate(0, 999_998);
        Check.answers("a millionth of 999,999", 0, () -> x.due(0, 2, 0));
        x.estimate(0, 999_999);
        Check.answers("a millionth of 1,000,000", 1, () -> x.due(0, 2, 0));
    }

    /** "first that amount (100,000 parts of b)", rounded down */
    private static void reinstatementOfB() {
        int[][] rows = {{1, 0}, {9, 0}, {10, 1}, {19, 1}, {20, 2}, {GREATEST, 100_000_000}};
        for (int[] row : rows) {
            ReinsuranceDesk x = Desks.desk();
            x.treaty(20, 0, row[0], 1, 0);
            x.share(0, 0, ALL);
            Desks.add(x, 0, 0, GREATEST);
            Check.answers("a tenth of " + row[0], row[1], () -> x.due(0, 0, 1));
        }
    }

    /** "times the taken, over b", rounded down */
    private static void reinstatementTimesTaken() {
        int[][] rows = {{0, 0}, {9, 0}, {10, 0}, {11, 1}, {20, 1}, {21, 2}, {104, 9}, {105, 10}, {106, 10},
            {GREATEST, 10}};
        for (int[] row : rows) {
            ReinsuranceDesk x = Desks.desk();
            x.treaty(20, 0, 105, 1, 0);
            x.share(0, 0, ALL);
            Desks.add(x, 0, 0, row[0]);
            Check.answers("10 times what is taken over 105, a claim of " + row[0], row[1], () -> x.due(0, 0, 1));
        }
    }

    /** "then its share", rounded down */
    private static void reinstatementShare() {
        ReinsuranceDesk x = Desks.desk();
        x.treaty(20, 0, 105, 1, 0);
        x.share(0, 0, 99_999);
        x.share(0, 1, 100_000);
        x.share(0, 2, 199_999);
        x.share(0, 3, 200_000);
        Desks.add(x, 0, 0, 105);
        Check.answers("99,999 parts of 10", 0, () -> x.due(0, 0, 1));
        Check.answers("100,000 parts of 10", 1, () -> x.due(0, 1, 1));
        Check.answers("199,999 parts of 10", 1, () -> x.due(0, 2, 1));
        Check.answers("200,000 parts of 10", 2, () -> x.due(0, 3, 1));
    }

    /** "what the treaty takes (at most b * c)", for each number of reinstatements and both kinds */
    private static void reinstatementAtMost() {
        for (int kind = 2; kind < 4; kind++) {
            for (int c = 0; c <= 5; c++) {
                ReinsuranceDesk x = Desks.desk();
                x.treaty(10 * kind, 0, 100, c, 0);
                x.share(0, 0, ALL);
                for (int claim = 0; claim < c; claim++) {
                    Desks.add(x, 1 + claim, claim, 100);
                }
                String name = ", kind " + kind + ", reinstatements " + c;
                Check.answers("b * c is taken" + name, 10 * c, () -> x.due(0, 0, 1));
                int last = Desks.add(x, 9, 99, 1);
                Check.answers("one cent more" + name, 10 * c, () -> x.due(0, 0, 1));
                x.estimate(last, 10);
                Check.answers("the first that is cut by a cent" + name, 10 * c, () -> x.due(0, 0, 1));
                x.estimate(last, 100);
                Check.answers("b * (1 + c) is taken" + name, 10 * c, () -> x.due(0, 0, 1));
                Check.answers("all is recovered" + name, 100 * (1 + c), () -> x.due(0, 0, 0));
                if (c > 0) {
                    x.estimate(0, 99);
                    x.estimate(last, 0);
                    Check.answers("one cent less than b * c" + name, 10 * c - 1, () -> x.due(0, 0, 1));
                }
            }
        }
    }

    /** "a REINSTATEMENT PREMIUM of excesses (2, 3)" */
    private static void reinstatementOfKinds() {
        int[][] treaties = {{0, ALL, GREATEST, 0, 0}, {10, 1, 20, 0, 0}, {20, 0, 1000, 5, 0}, {30, 0, 1000, 5, 0},
            {40, 0, GREATEST, 0, 0}};
        int[] due = {0, 0, 100, 100, 0};
        for (int kind = 0; kind < 5; kind++) {
            int[] t = treaties[kind];
            ReinsuranceDesk x = Desks.desk();
            x.treaty(t[0], t[1], t[2], t[3], t[4]);
            x.share(0, 0, ALL);
            Desks.add(x, 1, 0, GREATEST);
            Check.answers("reinstatement premium, kind " + kind, due[kind], () -> x.due(0, 0, 1));
        }
    }

    private static void ratioAndCommission() {
        ratioAtMost();
        ratioWithoutPremium();
        ratioRounded();
        commissionByRatio();
        commissionRounded();
        ratioOfKinds();
    }

    /** A quota that takes all of one risk with this premium and one claim. */
    private static ReinsuranceDesk whole(int premium, int estimate) {
        ReinsuranceDesk x = Desks.desk();
        x.premium(0, premium);
        x.treaty(0, ALL, 1000, 0, 0);
        Desks.add(x, 0, 0, estimate);
        return x;
    }

    /** "at most 9,000,000" */
    private static void ratioAtMost() {
        int[][] rows = {{8_999_999, 8_999_999}, {9_000_000, 9_000_000}, {9_000_001, 9_000_000}, {GREATEST, 9_000_000}};
        for (int[] row : rows) {
            Check.answers("ratio of " + row[0], row[1], () -> whole(ALL, row[0]).total(0, 2));
        }
    }

    /** "0 without a premium" */
    private static void ratioWithoutPremium() {
        Check.answers("ratio without a premium", 0, () -> whole(0, GREATEST).total(0, 2));
        Check.answers("commission without a premium", 0, () -> whole(0, GREATEST).total(0, 3));
        Check.answers("ratio with the least premium", 9_000_000, () -> whole(1, GREATEST).total(0, 2));
        Check.answers("ratio of nothing taken", 0, () -> whole(1, 0).total(0, 2));
        ReinsuranceDesk x = Desks.desk();
        x.premium(0, 1);
        x.treaty(0, 500_000, 1000, 0, 0);
        Desks.add(x, 0, 0, 100);
        Check.answers("a premium of which nothing goes to the treaty", 0, () -> x.total(0, 2));
        x.premium(0, 2);
        Check.answers("a premium of which one cent goes to it", 9_000_000, () -> x.total(0, 2));
    }

    /** "what it takes over its premium, in millionths", rounded down */
    private static void ratioRounded() {
        Check.answers("one third", 333_333, () -> whole(3, 1).total(0, 2));
        Check.answers("two thirds", 666_666, () -> whole(3, 2).total(0, 2));
        Check.answers("three thirds", 1_000_000, () -> whole(3, 3).total(0, 2));
        Check.answers("less than a millionth", 0, () -> whole(GREATEST, 999).total(0, 2));
        Check.answers("a millionth", 1, () -> whole(GREATEST, 1000).total(0, 2));
    }

    /** "300,000 for a ratio up to 400,000, less by what the ratio is above, at least 100,000" */
    private static void commissionByRatio() {
        int[][] rows = {{0, 300_000}, {399_999, 300_000}, {400_000, 300_000}, {400_001, 299_999}, {400_002, 299_998},
            {599_998, 100_002}, {599_999, 100_001}, {600_000, 100_000}, {600_001, 100_000}, {700_000, 100_000},
            {9_000_000, 100_000}, {GREATEST, 100_000}};
        for (int[] row : rows) {
            Check.answers("commission for a ratio of " + row[0], row[1], () -> whole(ALL, row[0]).total(0, 3));
        }
    }

    /** "its premium times a part", rounded down */
    private static void commissionRounded() {
        int[][] rows = {{3, 0, 0}, {4, 0, 1}, {6, 0, 1}, {7, 0, 2}, {9, 9, 0}, {10, 10, 1}, {19, 19, 1}, {20, 20, 2}};
        for (int[] row : rows) {
            String name = "commission of a premium of " + row[0] + ", a claim of " + row[1];
            Check.answers(name, row[2], () -> whole(row[0], row[1]).total(0, 3));
        }
    }

    /** "1 its premium (0 of kinds above 1)", "its commission (of kinds 0, 1)" */
    private static void ratioOfKinds() {
        int[][] treaties = {{0, ALL, GREATEST, 0, 0}, {10, 500, 1, 0, 0}, {20, 0, 1000, 5, 0}, {30, 0, 1000, 5, 0},
            {40, 0, GREATEST, 0, 0}};
        int[][] due = {{300, 1000, 300_000, 300}, {150, 500, 300_000, 150}, {300, 0, 0, 0}, {300, 0, 0, 0},
            {300, 0, 0, 0}};
        for (int kind = 0; kind < 5; kind++) {
            int[] t = treaties[kind];
            ReinsuranceDesk x = Desks.desk();
            x.premium(0, 1000);
            x.treaty(t[0], t[1], t[2], t[3], t[4]);
            Desks.add(x, 1, 0, 300);
            for (int what = 0; what < 4; what++) {
                int w = what;
                Check.answers("total of kind " + kind + ", what " + w, due[kind][w], () -> x.total(0, w));
            }
        }
    }

    private static void bills() {
        billRoundsEach();
        billBooks();
        billOfOpenYears();
        wideBill();
    }

    /** "each of these of each treaty rounded down by itself" */
    private static void billRoundsEach() {
        ReinsuranceDesk x = Desks.desk();
        x.premium(0, 15);
        x.treaty(0, 200_000, 1000, 0, 0);
        x.treaty(20, 0, 10, 1, 0);
        x.treaty(20, 0, 11, 0, 0);
        for (int treaty = 0; treaty < 3; treaty++) {
            x.share(treaty, 0, 500_000);
        }
        Desks.add(x, 0, 0, 75);
        Check.answers("taken by the quota", 15, () -> x.total(0, 0));
        Check.answers("premium of the quota", 3, () -> x.total(0, 1));
        Check.answers("7 less 1 of 15 and 3, 5 less 0 of 10 and 1, 5 of 11", 7 - 1 + 5 + 5, () -> x.bill(0));
        x.premium(0, 20);
        Check.answers("one cent of premium more", -1, () -> x.bill(0));
        x.share(1, 0, ALL);
        Check.answers("all of the second: 10 less 1", 9 - 5, () -> x.bill(0));
    }

    /** "bill() answers the difference to what was billed, and books it" */
    private static void billBooks() {
        ReinsuranceDesk x = whole(0, 10);
        x.share(0, 0, 500_000);
        x.share(0, 5, 500_000);
        Check.answers("the first bill", 5, () -> x.bill(0));
        Check.answers("nothing new", 0, () -> x.bill(0));
        x.estimate(0, 11);
        Check.answers("less than a cent", 0, () -> x.bill(0));
        x.estimate(0, 12);
        Check.answers("a cent", 1, () -> x.bill(0));
        x.estimate(0, 11);
        Check.answers("a cent back", -1, () -> x.bill(0));
        x.strike(0);
        Check.answers("all back", -5, () -> x.bill(0));
        Check.answers("another has nothing to give back", 0, () -> x.bill(5));
    }

    /** "for all years that are open" */
    private static void billOfOpenYears() {
        ReinsuranceDesk x = new ReinsuranceDesk();
        int together = 0;
        for (int year = 0; year < 4; year++) {
            x.risk(year, 1000, year);
            x.estimate(x.claim(year, 0, 0), 10 + year);
            x.share(x.treaty(year, ALL, 1000, 0, 0), 0, ALL);
            together += 10 + year;
        }
        int all = together;
        Check.answers("all years", all, () -> x.bill(0));
        for (int year = 0; year < 4; year++) {
            int y = year;
            x.year(y, false);
            Check.answers("year " + y + " is closed", -10 - y, () -> x.bill(0));
            Check.answers("year " + y + " is closed, and booked", 0, () -> x.bill(0));
        }
        for (int year = 0; year < 4; year++) {
            x.year(year, true);
        }
        Check.answers("all years again", all, () -> x.bill(0));
        x.year(0, false);
        x.year(0, true);
        Check.answers("closed and opened between two bills", 0, () -> x.bill(0));
    }

    /** The greatest bill and the least. */
    private static void wideBill() {
        ReinsuranceDesk x = new ReinsuranceDesk();
        x.treaty(0, ALL, GREATEST, 0, 0);
        x.share(0, 0, ALL);
        for (int risk = 0; risk < 12; risk++) {
            x.risk(risk, GREATEST, 0);
            x.premium(risk, GREATEST);
        }
        Check.answers("premiums less commissions", -8_400_000_000L, () -> x.bill(0));
        for (int claim = 0; claim < 40; claim++) {
            Desks.add(x, 0, 0, GREATEST);
        }
        Check.answers("ratio of forty claims and twelve premiums", 3_333_333, () -> x.total(0, 2));
        Check.answers("claims, and commissions down to a third", 37_600_000_000L, () -> x.bill(0));
    }

    /** "nothing of a closed year can change": its answers stay while another year's claims, shares and years change */
    private static void closedYears() {
        ReinsuranceDesk x = Desks.desk();
        x.risk(1, 1000, 1);
        x.treaty(30, 0, 50, 0, 0);
        x.treaty(31, 0, 50, 0, 0);
        Desks.add(x, 1, 10, 80);
        x.estimate(x.claim(1, 1, 5), 80);
        x.year(0, false);
        Check.answers("dissolved in the open year", 1, () -> x.dissolve(1, 1));
        x.strike(1);
        x.treaty(41, 0, 1, 0, 0);
        x.premium(1, 9);
        Check.answers("window of the closed year", 10, () -> x.window(0, 1));
        Check.answers("ceded in the closed year", 50, () -> x.ceded(0, 0));
        Check.answers("kept in the closed year", 30, () -> x.kept(0));
        x.year(0, true);
        Check.answers("opened, as it was", 50, () -> x.ceded(0, 0));
        Check.answers("opened, it can change", 1, () -> x.dissolve(1, 0));
        Check.answers("and has changed", 80, () -> x.kept(0));
    }

    /** A treaty of each kind without any claims. */
    private static void nothingWithoutClaims() {
        ReinsuranceDesk x = new ReinsuranceDesk();
        for (int kind = 0; kind < 5; kind++) {
            x.treaty(10 * kind, 1, 7, 0, 0);
            x.share(kind, 0, ALL);
        }
        for (int treaty = 0; treaty < 5; treaty++) {
            int t = treaty;
            for (int what = 0; what < 4; what++) {
                int w = what;
                Check.answers("empty total of " + t + ", what " + w, 0, () -> x.total(t, w));
            }
            Check.answers("empty recovered of " + t, 0, () -> x.due(t, 0, 0));
            Check.answers("empty reinstatement of " + t, 0, () -> x.due(t, 0, 1));
        }
        Check.answers("all is left of kind 2", 7, () -> x.left(2));
        Check.answers("all is left of kind 3", 7, () -> x.left(3));
        Check.answers("empty bill", 0, () -> x.bill(0));
    }

    /** "An object is used for at most 512 calls": the last of them is answered like the first. */
    private static void lastCall() {
        ReinsuranceDesk x = whole(0, 1);
        x.share(0, 0, ALL);
        for (int call = 6; call < 511; call++) {
            x.estimate(0, call);
        }
        Check.answers("the last call", 510, () -> x.bill(0));
    }
}
