/** Promises 14, 15 and 17: totals, what is due, and bills. */
public final class MoneyTest {
    private static final int[] WRONG_NUMBERS = {-1, Integer.MIN_VALUE, Integer.MAX_VALUE};
    private static final int GREATEST = 1_000_000_000;

    private MoneyTest() {
    }

    public static void main(String[] args) {
        takenAndPremium();
        premiumsOfRisks();
        ratio();
        commission();
        otherKinds();
        totalRefuses();
        recovered();
        reinstatement();
        dueRefuses();
        bill();
        billRoundsEach();
        billOfYears();
        billOfReadme();
        Check.end();
    }

    /** All of a risk with this premium and this claim goes to quota 0. */
    private static ReinsuranceDesk whole(int premium, int estimate) {
        ReinsuranceDesk x = new ReinsuranceDesk();
        x.risk(0, 1000, 0);
        x.premium(0, premium);
        x.treaty(0, 1_000_000, 1000, 0, 0);
        x.estimate(x.claim(0, 0, 0), estimate);
        return x;
    }

    private static void takenAndPremium() {
        ReinsuranceDesk x = whole(500, 70);
        x.risk(1, 2000, 0);
        x.premium(1, 301);
        x.estimate(x.claim(1, 0, 0), 33);
        x.risk(2, 1000, 1);
        x.premium(2, 9999);
        x.estimate(x.claim(2, 0, 0), 9999);
        Check.answers("14: taken, of its year alone", 70 + 16, () -> x.total(0, 0));
        Check.answers("14: premium, of its year alone", 500 + 150, () -> x.total(0, 1));
        x.strike(0);
        Check.answers("14: taken, without a struck one", 16, () -> x.total(0, 0));
        Check.answers("14: premium, of risks", 650, () -> x.total(0, 1));
    }

    /** Treaties one behind the other, told in another order, each with parts of what is left. */
    private static void premiumsOfRisks() {
        ReinsuranceDesk x = new ReinsuranceDesk();
        x.risk(0, 1000, 2);
        x.risk(1, 300, 2);
        x.premium(0, 999);
        x.premium(1, 101);
        x.treaty(12, 400, 1, 0, 0);
        x.treaty(2, 500_000, 500, 0, 0);
        x.treaty(2, 100_000, 1000, 0, 0);
        x.treaty(12, 200, 20, 0, 0);
        x.treaty(22, 0, 1, 0, 0);
        Check.answers("14: first quota", 249 + 50, () -> x.total(1, 1));
        Check.answers("14: second quota", 75 + 5, () -> x.total(2, 1));
        Check.answers("14: first surplus", 270, () -> x.total(0, 1));
        Check.answers("14: second surplus", 324 + 15, () -> x.total(3, 1));
        Check.answers("14: an excess", 0, () -> x.total(4, 1));
    }

    private static void ratio() {
        Check.answers("14: ratio", 123_456, () -> whole(1_000_000, 123_456).total(0, 2));
        Check.answers("14: ratio rounded down", 333_333, () -> whole(3, 1).total(0, 2));
        Check.answers("14: ratio of nothing taken", 0, () -> whole(3, 0).total(0, 2));
        Check.answers("14: ratio without a premium", 0, () -> whole(0, 5).total(0, 2));
        Check.answers("14: ratio below the greatest", 8_999_999, () -> whole(1_000_000, 8_999_999).total(0, 2));
        Check.answers("14: ratio just the greatest", 9_000_000, () -> whole(1, 9).total(0, 2));
        Check.answers("14: ratio above the greatest", 9_000_000, () -> whole(1_000_000, 9_000_001).total(0, 2));
        Check.answers("14: ratio far above", 9_000_000, () -> whole(1, GREATEST).total(0, 2));
        ReinsuranceDesk x = whole(1, GREATEST);
        for (int claim = 1; claim < 40; claim++) {
            x.estimate(x.claim(0, 0, 0), GREATEST);
        }
        Check.answers("14: all claims", 40L * GREATEST, () -> x.total(0, 0));
        Check.answers("14: ratio of all claims", 9_000_000, () -> x.total(0, 2));
    }

    private static void commission() {
        int[][] parts = {{0, 300_000}, {400_000, 300_000}, {400_001, 299_999}, {500_000, 200_000}, {599_999, 100_001},
            {600_000, 100_000}, {600_001, 100_000}, {700_001, 100_000}, {10_000_000, 100_000}};
        for (int[] row : parts) {
            ReinsuranceDesk x = whole(1_000_000, row[0]);
            Check.answers("14: commission for a ratio of " + row[0], row[1], () -> x.total(0, 3));
        }
        Check.answers("14: commission rounded down", 2, () -> whole(9, 0).total(0, 3));
        Check.answers("14: commission without a premium", 0, () -> whole(0, 9).total(0, 3));
        ReinsuranceDesk x = new ReinsuranceDesk();
        x.treaty(0, 1_000_000, GREATEST, 0, 0);
        for (int risk = 0; risk < 12; risk++) {
            x.risk(risk, GREATEST, 0);
            x.premium(risk, GREATEST);
        }
        Check.answers("14: all premiums", 12L * GREATEST, () -> x.total(0, 1));
        Check.answers("14: commission of all premiums", 3_600_000_000L, () -> x.total(0, 3));
    }

    private static void otherKinds() {
        ReinsuranceDesk x = new ReinsuranceDesk();
        x.risk(0, 1000, 0);
        x.premium(0, 500);
        x.estimate(x.claim(0, 1, 0), 300);
        for (int kind = 2; kind < 5; kind++) {
            int treaty = x.treaty(10 * kind, 100 - 10 * kind, 10, 0, 0);
            Check.answers("14: taken by kind " + kind, 10, () -> x.total(treaty, 0));
            for (int what = 1; what < 4; what++) {
                int number = what;
                Check.answers("14: what " + number + " of kind " + kind, 0, () -> x.total(treaty, number));
            }
        }
    }

    private static void totalRefuses() {
        ReinsuranceDesk x = whole(1, 1);
        Check.argument("14: treaty 1", () -> x.total(1, 0));
        Check.argument("14: what 4", () -> x.total(0, 4));
        for (int wrong : WRONG_NUMBERS) {
            Check.argument("14: treaty " + wrong, () -> x.total(wrong, 0));
            Check.argument("14: what " + wrong, () -> x.total(0, wrong));
        }
    }

    private static void recovered() {
        ReinsuranceDesk x = whole(0, 10);
        x.estimate(x.claim(0, 0, 0), 11);
        x.share(0, 2, 333_333);
        x.share(0, 3, 666_667);
        Check.answers("15: its share of the sum", 6, () -> x.due(0, 2, 0));
        Check.answers("15: another's share", 14, () -> x.due(0, 3, 0));
        Check.answers("15: no share", 0, () -> x.due(0, 4, 0));
        Check.answers("15: a quota is not reinstated", 0, () -> x.due(0, 3, 1));
        x.share(0, 2, 0);
        x.share(0, 3, 1_000_000);
        for (int claim = 2; claim < 40; claim++) {
            x.claim(0, 0, 0);
        }
        for (int claim = 0; claim < 40; claim++) {
            x.estimate(claim, GREATEST);
        }
        Check.answers("15: all", 40L * GREATEST, () -> x.due(0, 3, 0));
    }

    private static void reinstatement() {
        for (int kind = 2; kind < 4; kind++) {
            ReinsuranceDesk x = new ReinsuranceDesk();
            x.risk(0, 1000, 0);
            x.treaty(10 * kind, 0, 1005, 2, 0);
            x.share(0, 1, 500_000);
            x.estimate(x.claim(0, 1, 0), 500);
            String of = "15: kind " + kind + ", ";
            Check.answers(of + "each step rounded down", 24, () -> x.due(0, 1, 1));
            x.share(0, 1, 1_000_000);
            Check.answers(of + "all of it", 49, () -> x.due(0, 1, 1));
            x.estimate(0, 2000);
            Check.answers(of + "b is taken", 100, () -> x.due(0, 1, 1));
            x.estimate(x.claim(0, 2, 0), 1005);
            Check.answers(of + "b * c is taken", 200, () -> x.due(0, 1, 1));
            x.estimate(x.claim(0, 3, 0), 1005);
            Check.answers(of + "at most b * c", 200, () -> x.due(0, 1, 1));
            Check.answers(of + "all is recovered", 3015, () -> x.due(0, 1, 0));
            Check.answers(of + "no share", 0, () -> x.due(0, 0, 1));
            int free = x.treaty(10 * kind, 0, 5, 0, 0);
            x.share(free, 1, 1_000_000);
            Check.answers(of + "nothing to reinstate", 0, () -> x.due(free, 1, 1));
        }
        ReinsuranceDesk y = new ReinsuranceDesk();
        y.risk(0, GREATEST, 0);
        y.treaty(20, 0, GREATEST, 5, 0);
        y.treaty(40, 0, GREATEST, 0, 0);
        y.share(0, 5, 1_000_000);
        y.share(1, 5, 1_000_000);
        for (int claim = 0; claim < 40; claim++) {
            y.estimate(y.claim(0, 0, 0), GREATEST);
        }
        Check.answers("15: the greatest", 500_000_000, () -> y.due(0, 5, 1));
        Check.answers("15: a stop loss is not reinstated", 0, () -> y.due(1, 5, 1));
    }

    private static void dueRefuses() {
        ReinsuranceDesk x = whole(1, 1);
        Check.argument("15: treaty 1", () -> x.due(1, 0, 0));
        Check.argument("15: reinsurer 6", () -> x.due(0, 6, 0));
        Check.argument("15: what 2", () -> x.due(0, 0, 2));
        for (int wrong : WRONG_NUMBERS) {
            Check.argument("15: treaty " + wrong, () -> x.due(wrong, 0, 0));
            Check.argument("15: reinsurer " + wrong, () -> x.due(0, wrong, 0));
            Check.argument("15: what " + wrong, () -> x.due(0, 0, wrong));
        }
    }

    private static void bill() {
        ReinsuranceDesk x = whole(1_000_000, 500_000);
        x.share(0, 0, 500_000);
        x.share(0, 1, 250_000);
        Check.answers("17: recovered and commission less premium", 250_000 + 100_000 - 500_000, () -> x.bill(0));
        Check.answers("17: it is booked", 0, () -> x.bill(0));
        x.estimate(0, 600_000);
        Check.answers("17: the difference", 50_000 - 50_000, () -> x.bill(0));
        x.estimate(0, 700_000);
        Check.answers("17: the least commission", 50_000, () -> x.bill(0));
        Check.answers("17: another is billed by itself", 175_000 + 25_000 - 250_000, () -> x.bill(1));
        Check.answers("17: no share", 0, () -> x.bill(2));
        x.treaty(20, 0, 100, 1, 0);
        x.treaty(0, 500_000, 1000, 0, 0);
        x.share(1, 0, 1_000_000);
        x.share(2, 0, 1_000_000);
        Check.answers("17: nothing is left for other treaties", 0, () -> x.bill(0));
        x.share(0, 0, 0);
        Check.answers("17: a share given up", 350_000 * -1 - 50_000 + 500_000, () -> x.bill(0));
        x.strike(0);
        Check.answers("17: struck", -175_000 + 50_000, () -> x.bill(1));
        Check.argument("17: reinsurer 6", () -> x.bill(6));
        for (int wrong : WRONG_NUMBERS) {
            Check.argument("17: reinsurer " + wrong, () -> x.bill(wrong));
        }
    }

    /** Halves of odd amounts: of each treaty each of the four is rounded down by itself. */
    private static void billRoundsEach() {
        ReinsuranceDesk x = new ReinsuranceDesk();
        x.risk(0, 1000, 0);
        x.premium(0, 37);
        x.estimate(x.claim(0, 0, 0), 1000);
        x.treaty(0, 101_000, 1000, 0, 0);
        x.treaty(0, 300_000, 1000, 0, 0);
        x.treaty(20, 100, 150, 1, 0);
        x.treaty(20, 50, 31, 1, 0);
        for (int treaty = 0; treaty < 4; treaty++) {
            x.share(treaty, 5, 500_000);
        }
        Check.answers("17: taken 101", 101, () -> x.total(0, 0));
        Check.answers("17: premium 3", 3, () -> x.total(0, 1));
        Check.answers("17: commission 0", 0, () -> x.total(0, 3));
        Check.answers("17: taken 269", 269, () -> x.total(1, 0));
        Check.answers("17: premium 10", 10, () -> x.total(1, 1));
        Check.answers("17: commission 1", 1, () -> x.total(1, 3));
        Check.answers("17: reinstatement 7", 7, () -> x.due(2, 5, 1));
        Check.answers("17: reinstatement 1", 1, () -> x.due(3, 5, 1));
        Check.answers("17: each rounded down", 50 - 1 + 134 - 5 + 75 - 7 + 15 - 1, () -> x.bill(5));
    }

    private static void billOfYears() {
        ReinsuranceDesk x = new ReinsuranceDesk();
        for (int year = 0; year < 4; year++) {
            x.risk(year, 1000, year);
            x.estimate(x.claim(year, 0, 0), 1 << 4 * year);
            x.share(x.treaty(year, 1_000_000, 1000, 0, 0), 3, 1_000_000);
        }
        Check.answers("17: all years", 0x1111, () -> x.bill(3));
        x.year(1, false);
        Check.answers("17: a closed year is not in the bill", -0x0010, () -> x.bill(3));
        x.year(3, false);
        x.estimate(0, 3);
        Check.answers("17: another one", 2 - 0x1000, () -> x.bill(3));
        x.year(1, true);
        Check.answers("17: opened again", 0x0010, () -> x.bill(3));
        x.year(0, false);
        x.year(1, false);
        x.year(2, false);
        Check.answers("17: all closed", -0x0113, () -> x.bill(3));
        Check.answers("17: all closed, booked", 0, () -> x.bill(3));
        x.year(3, true);
        Check.answers("17: one open", 0x1000, () -> x.bill(3));
    }

    /** The run that README.md shows. */
    private static void billOfReadme() {
        ReinsuranceDesk desk = new ReinsuranceDesk();
        desk.risk(0, 100_000, 0);
        desk.premium(0, 5_000);
        int quota = desk.treaty(0, 250_000, 200_000, 0, 0);
        desk.share(quota, 3, 600_000);
        int claim = desk.claim(0, 0, 12);
        desk.estimate(claim, 40_000);
        Check.answers("README: ceded", 10_000, () -> desk.ceded(claim, quota));
        Check.answers("README: kept", 30_000, () -> desk.kept(claim));
        Check.answers("README: bill", 5_325, () -> desk.bill(3));
        Check.answers("README: booked", 0, () -> desk.bill(3));
    }
}
