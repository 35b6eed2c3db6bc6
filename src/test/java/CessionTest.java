/** Promises 10 to 13 and 16: what treaties take of claims, what is kept, and what would be. */
public final class CessionTest {
    private static final int[] WRONG_NUMBERS = {-1, Integer.MIN_VALUE, Integer.MAX_VALUE};
    private static final int GREATEST = 1_000_000_000;

    private CessionTest() {
    }

    public static void main(String[] args) {
        kept();
        ceded();
        quota();
        surplus();
        orderOfTreaties();
        excessOfRisk();
        excessLimits();
        excessOfEvent();
        eventsInOrder();
        remainders();
        stopLoss();
        greatestAmounts();
        left();
        window();
        windowOfWhatIsKept();
        whatIf();
        Check.end();
    }

    /** Risk 0 with this sum in year 0. */
    private static ReinsuranceDesk desk(int sum) {
        ReinsuranceDesk x = new ReinsuranceDesk();
        x.risk(0, sum, 0);
        return x;
    }

    private static void add(ReinsuranceDesk x, int risk, int event, int hour, int amount) {
        x.estimate(x.claim(risk, event, hour), amount);
    }

    private static void cededAre(String what, ReinsuranceDesk x, int treaty, int... due) {
        for (int claim = 0; claim < due.length; claim++) {
            int number = claim;
            Check.answers(what + ", ceded(" + number + ", " + treaty + ")", due[number], () -> x.ceded(number, treaty));
        }
    }

    private static void keptAre(String what, ReinsuranceDesk x, int... due) {
        for (int claim = 0; claim < due.length; claim++) {
            int number = claim;
            Check.answers(what + ", kept(" + number + ")", due[number], () -> x.kept(number));
        }
    }

    private static void kept() {
        ReinsuranceDesk x = desk(1000);
        x.risk(1, 1000, 1);
        add(x, 0, 0, 0, 500);
        add(x, 1, 0, 0, 500);
        add(x, 0, 0, 0, 70);
        keptAre("10: without treaties", x, 500, 500, 70);
        x.treaty(0, 200_000, 1000, 0, 0);
        keptAre("10: a treaty of its year", x, 400, 500, 56);
        x.treaty(40, 100, 50, 0, 0);
        keptAre("10: behind all treaties", x, 356, 500, 50);
        x.strike(0);
        keptAre("10: struck", x, 0, 500, 56);
        Check.argument("10: claim 3", () -> x.kept(3));
        for (int wrong : WRONG_NUMBERS) {
            Check.argument("10: claim " + wrong, () -> x.kept(wrong));
        }
    }

    private static void ceded() {
        ReinsuranceDesk x = desk(1000);
        x.risk(1, 1000, 1);
        x.treaty(0, 500_000, 1000, 0, 0);
        x.treaty(1, 100_000, 1000, 0, 0);
        add(x, 0, 0, 0, 100);
        add(x, 1, 0, 0, 100);
        cededAre("11: another year", x, 0, 50, 0);
        cededAre("11: another year", x, 1, 0, 10);
        x.strike(0);
        cededAre("11: struck", x, 0, 0, 0);
        Check.argument("11: claim 2", () -> x.ceded(2, 0));
        Check.argument("11: treaty 2", () -> x.ceded(0, 2));
        for (int wrong : WRONG_NUMBERS) {
            Check.argument("11: claim " + wrong, () -> x.ceded(wrong, 0));
            Check.argument("11: treaty " + wrong, () -> x.ceded(0, wrong));
        }
    }

    private static void quota() {
        ReinsuranceDesk x = desk(1000);
        x.risk(1, 1001, 0);
        x.risk(2, 1, 0);
        x.treaty(0, 500_000, 1000, 0, 0);
        add(x, 0, 0, 0, 999);
        add(x, 1, 0, 0, GREATEST);
        add(x, 2, 0, 0, GREATEST);
        cededAre("11: quota, the part itself is rounded down", x, 0, 499, 499_500_000, 500_000_000);
        ReinsuranceDesk all = desk(GREATEST);
        all.treaty(0, 1_000_000, GREATEST, 0, 0);
        all.treaty(0, 1, GREATEST, 0, 0);
        add(all, 0, 0, 0, GREATEST);
        cededAre("11: quota of all", all, 0, GREATEST);
        cededAre("11: quota of nothing left", all, 1, 0);
        keptAre("10: quota of all", all, 0);
        ReinsuranceDesk least = desk(GREATEST);
        least.treaty(0, 1, GREATEST, 0, 0);
        least.treaty(0, 1, GREATEST - 1, 0, 0);
        add(least, 0, 0, 0, GREATEST);
        cededAre("11: quota of a millionth", least, 0, 1000);
        cededAre("11: quota of less than a millionth", least, 1, 0);
    }

    private static void surplus() {
        ReinsuranceDesk x = desk(300);
        int[] sums = {300, 299, 301, 900, 1000, 1};
        for (int risk = 1; risk < sums.length; risk++) {
            x.risk(risk, sums[risk], 0);
        }
        x.treaty(10, 300, 2, 0, 0);
        for (int risk = 0; risk < sums.length; risk++) {
            add(x, risk, 0, 0, GREATEST);
        }
        cededAre("11: surplus", x, 0, 0, 0, 3_322_000, 666_666_000, 600_000_000, 0);
        ReinsuranceDesk wide = desk(GREATEST);
        wide.treaty(10, 150_000_000, 20, 0, 0);
        add(wide, 0, 0, 0, 10);
        add(wide, 0, 0, 0, GREATEST);
        cededAre("11: surplus with lines above all amounts", wide, 0, 8, 850_000_000);
        wide.treaty(10, GREATEST, 20, 0, 0);
        cededAre("11: surplus with the sum as its line", wide, 1, 0, 0);
    }

    /** One treaty of each kind, told last kind first, and a second quota. */
    private static void orderOfTreaties() {
        ReinsuranceDesk x = desk(1000);
        x.treaty(40, 100, 10, 0, 0);
        x.treaty(30, 10, 100, 0, 0);
        x.treaty(20, 300, 100, 0, 0);
        x.treaty(10, 800, 1, 0, 0);
        x.treaty(0, 500_000, 1000, 0, 0);
        x.treaty(0, 100_000, 1000, 0, 0);
        add(x, 0, 1, 0, 1000);
        cededAre("11: first quota", x, 4, 500);
        cededAre("11: second quota", x, 5, 50);
        cededAre("11: surplus behind quotas", x, 3, 90);
        cededAre("11: excess of a risk behind surplus", x, 2, 60);
        cededAre("11: excess of an event behind that of a risk", x, 1, 100);
        cededAre("11: stop loss last", x, 0, 10);
        keptAre("10: behind six", x, 190);
    }

    private static void excessOfRisk() {
        ReinsuranceDesk x = desk(1000);
        x.treaty(20, 100, 200, 1, 150);
        add(x, 0, 0, 50, 500);
        add(x, 0, 0, 10, 300);
        add(x, 0, 0, 10, 250);
        add(x, 0, 0, 5, 100);
        add(x, 0, 0, 60, 101);
        cededAre("11: by hours, then numbers", x, 0, 200, 50, 150, 0, 0);
        keptAre("10: by hours, then numbers", x, 300, 250, 100, 100, 101);
        x.strike(1);
        cededAre("11: without a struck one", x, 0, 200, 0, 0, 0, 1);
    }

    private static void excessLimits() {
        for (int c = 0; c <= 5; c++) {
            ReinsuranceDesk x = desk(1000);
            x.treaty(20, 100, 200, c, 150);
            for (int claim = 0; claim < 8; claim++) {
                add(x, 0, 0, claim, 1000);
            }
            int most = 200 * (1 + c);
            int last = c + 1;
            Check.answers("14: no more than b * (1 + c), c is " + c, most, () -> x.total(0, 0));
            Check.answers("12: nothing left, c is " + c, 0, () -> x.left(0));
            Check.answers("11: the deductible is of the first, c is " + c, 50, () -> x.ceded(0, 0));
            Check.answers("11: the last that is taken, c is " + c, 150, () -> x.ceded(last, 0));
            Check.answers("11: the first of which nothing is taken, c is " + c, 0, () -> x.ceded(last + 1, 0));
        }
    }

    private static void excessOfEvent() {
        ReinsuranceDesk x = desk(1000);
        x.treaty(30, 100, 1000, 0, 0);
        add(x, 0, 1, 172, 100);
        add(x, 0, 1, 171, 100);
        add(x, 0, 1, 100, 100);
        add(x, 0, 0, 100, 1000);
        add(x, 0, 2, 100, 100);
        cededAre("11: before h + 72, the earliest of the same", x, 0, 0, 50, 50, 0, 0);
        Check.answers("13: the earliest of the same", 100, () -> x.window(0, 1));
        x.estimate(0, 101);
        cededAre("11: the greatest sum", x, 0, 51, 50, 0, 0, 0);
        Check.answers("13: the greatest sum", 171, () -> x.window(0, 1));
        x.strike(0);
        cededAre("11: without a struck one", x, 0, 0, 50, 50, 0, 0);
        x.treaty(30, 0, 10, 0, 0);
        cededAre("11: a second one behind it, by events", x, 1, 0, 5, 5, 0, 0);
    }

    private static void eventsInOrder() {
        ReinsuranceDesk x = desk(1000);
        x.risk(1, 1000, 1);
        x.treaty(30, 50, 100, 1, 30);
        add(x, 0, 9, 0, 1000);
        add(x, 0, 3, 10, 1000);
        add(x, 0, 1, 90_000, 70);
        add(x, 1, 1, 90_000, 1000);
        add(x, 0, 2, 500, 1000);
        cededAre("11: events in order, the deductible first", x, 0, 10, 100, 0, 0, 90);
        Check.answers("12: nothing left", 0, () -> x.left(0));
        x.dissolve(2, 0);
        cededAre("11: without event 2", x, 0, 100, 90, 0, 0, 0);
        Check.answers("12: some left", 10, () -> x.left(0));
    }

    private static void remainders() {
        ReinsuranceDesk x = desk(1000);
        x.treaty(30, 0, 30, 0, 0);
        add(x, 0, 1, 9, 10);
        add(x, 0, 1, 8, 20);
        add(x, 0, 1, 7, 31);
        cededAre("11: the greatest remainders", x, 0, 5, 10, 15);
        ReinsuranceDesk y = desk(1000);
        y.treaty(30, 0, 101, 0, 0);
        add(y, 0, 1, 9, 0);
        add(y, 0, 1, 8, 100);
        add(y, 0, 1, 7, 100);
        add(y, 0, 1, 6, 100);
        cededAre("11: of the same ones the lowest number", y, 0, 0, 34, 34, 33);
        ReinsuranceDesk z = desk(1000);
        z.treaty(40, 0, 1, 0, 0);
        add(z, 0, 1, 9, 1);
        add(z, 0, 1, 9, 2);
        add(z, 0, 1, 9, 2);
        cededAre("11: a single cent", z, 0, 0, 1, 0);
    }

    private static void stopLoss() {
        ReinsuranceDesk x = desk(1000);
        x.risk(1, 1000, 1);
        x.treaty(40, 600, 100, 0, 0);
        add(x, 0, 0, 0, 100);
        add(x, 0, 1, 9000, 200);
        add(x, 1, 0, 0, 1000);
        add(x, 0, 0, 100_000, 300);
        cededAre("11: not above a", x, 0, 0, 0, 0, 0);
        x.estimate(3, 360);
        cededAre("11: above a", x, 0, 9, 18, 0, 33);
        x.estimate(3, 400);
        cededAre("11: just b", x, 0, 14, 29, 0, 57);
        x.estimate(3, 700);
        cededAre("11: at most b", x, 0, 10, 20, 0, 70);
        x.strike(3);
        cededAre("11: without a struck one", x, 0, 0, 0, 0, 0);
        ReinsuranceDesk y = desk(1000);
        y.treaty(40, 0, 1, 0, 0);
        Check.answers("14: no claims at all", 0, () -> y.total(0, 0));
        add(y, 0, 0, 0, 0);
        cededAre("11: nothing kept", y, 0, 0);
        y.estimate(0, 1);
        cededAre("11: a single cent kept", y, 0, 1);
    }

    private static void greatestAmounts() {
        ReinsuranceDesk x = desk(GREATEST);
        x.treaty(20, 0, GREATEST, 5, GREATEST);
        x.treaty(30, 0, GREATEST, 5, GREATEST);
        x.treaty(40, 0, GREATEST, 0, 0);
        for (int claim = 0; claim < 40; claim++) {
            add(x, 0, 1 + claim % 9, claim, GREATEST);
        }
        Check.answers("14: excess of a risk", 6L * GREATEST, () -> x.total(0, 0));
        Check.answers("14: excess of an event", 6L * GREATEST, () -> x.total(1, 0));
        Check.answers("14: stop loss", GREATEST, () -> x.total(2, 0));
        cededAre("11: the deductible, then six times b", x, 0, 0, GREATEST, GREATEST, GREATEST, GREATEST, GREATEST,
            GREATEST, 0);
        ReinsuranceDesk y = desk(GREATEST);
        y.treaty(40, GREATEST, GREATEST, 0, 0);
        for (int claim = 0; claim < 40; claim++) {
            add(y, 0, 0, 0, GREATEST);
        }
        for (int claim = 0; claim < 40; claim++) {
            int number = claim;
            Check.answers("11: a fortieth each, " + number, 25_000_000, () -> y.ceded(number, 0));
        }
    }

    private static void left() {
        ReinsuranceDesk x = desk(1000);
        for (int kind = 0; kind < 5; kind++) {
            x.treaty(10 * kind, 1, 1, 0, 0);
        }
        x.treaty(20, 100, GREATEST, 5, 0);
        x.treaty(33, 0, 7, 2, 0);
        Check.answers("12: without claims", 6L * GREATEST, () -> x.left(5));
        Check.answers("12: excess of an event", 21, () -> x.left(6));
        Check.argument("12: a quota", () -> x.left(0));
        Check.argument("12: a surplus", () -> x.left(1));
        Check.answers("12: kind 2", 1, () -> x.left(2));
        Check.answers("12: kind 3", 1, () -> x.left(3));
        Check.argument("12: a stop loss", () -> x.left(4));
        Check.argument("12: treaty 7", () -> x.left(7));
        for (int wrong : WRONG_NUMBERS) {
            Check.argument("12: treaty " + wrong, () -> x.left(wrong));
        }
        x.risk(1, 1, 3);
        add(x, 1, 1, 0, 9);
        add(x, 1, 2, 0, 5);
        Check.answers("12: less what it takes", 9, () -> x.left(6));
    }

    private static void window() {
        ReinsuranceDesk x = desk(1000);
        x.risk(1, 1000, 1);
        for (int kind = 0; kind < 5; kind++) {
            x.treaty(10 * kind, 1, 1, 0, 0);
        }
        for (int event = 1; event <= 9; event++) {
            int number = event;
            Check.answers("13: no claims of event " + number, -1, () -> x.window(3, number));
        }
        x.claim(1, 1, 5);
        x.claim(0, 0, 6);
        Check.answers("13: of another year, of no event", -1, () -> x.window(3, 1));
        x.claim(0, 9, 90);
        x.claim(0, 9, 30);
        x.claim(0, 9, 99_999);
        Check.answers("13: nothing kept, the earliest", 30, () -> x.window(3, 9));
        x.strike(3);
        Check.answers("13: without a struck one", 90, () -> x.window(3, 9));
        x.estimate(4, 1);
        Check.answers("13: the greatest", 99_999, () -> x.window(3, 9));
        x.strike(2);
        x.strike(4);
        Check.answers("13: all struck", -1, () -> x.window(3, 9));
        x.claim(0, 2, 0);
        Check.answers("13: hour 0", 0, () -> x.window(3, 2));
        Check.argument("13: event 0", () -> x.window(3, 0));
        Check.argument("13: event 10", () -> x.window(3, 10));
        Check.argument("13: treaty 5", () -> x.window(5, 1));
        for (int other : new int[] {0, 1, 2, 4}) {
            Check.argument("13: kind " + other, () -> x.window(other, 1));
        }
        for (int wrong : WRONG_NUMBERS) {
            Check.argument("13: treaty " + wrong, () -> x.window(wrong, 1));
            Check.argument("13: event " + wrong, () -> x.window(3, wrong));
        }
    }

    private static void windowOfWhatIsKept() {
        ReinsuranceDesk x = desk(1000);
        x.risk(1, 100, 0);
        x.treaty(30, 0, 450, 0, 0);
        x.treaty(30, 0, 1, 0, 0);
        add(x, 0, 1, 0, 1000);
        add(x, 1, 1, 200, 500);
        Check.answers("13: of the estimates", 0, () -> x.window(0, 1));
        x.treaty(10, 100, 20, 0, 0);
        Check.answers("13: behind a surplus", 200, () -> x.window(0, 1));
        Check.answers("13: behind another excess", 0, () -> x.window(1, 1));
        cededAre("11: behind a surplus", x, 0, 0, 450);
        cededAre("11: behind another excess", x, 1, 1, 0);
    }

    private static void whatIf() {
        ReinsuranceDesk x = desk(1000);
        x.risk(1, 1000, 1);
        x.treaty(0, 500_000, 1000, 0, 0);
        x.treaty(20, 100, 200, 0, 0);
        x.treaty(41, 0, GREATEST, 0, 0);
        add(x, 0, 0, 0, 400);
        add(x, 0, 0, 1, 500);
        Check.answers("16: as it is", 100, () -> x.whatIf(0, 400, 1));
        Check.answers("16: the quota", 500_000_000, () -> x.whatIf(0, GREATEST, 0));
        Check.answers("16: at most b", 200, () -> x.whatIf(0, GREATEST, 1));
        Check.answers("16: the other takes first", 100, () -> x.whatIf(1, GREATEST, 1));
        Check.answers("16: nothing", 0, () -> x.whatIf(0, 0, 0));
        Check.answers("16: another year", 0, () -> x.whatIf(0, GREATEST, 2));
        cededAre("16: nothing changes", x, 0, 200, 250);
        cededAre("16: nothing changes", x, 1, 100, 100);
        keptAre("16: nothing changes", x, 100, 150);
        Check.argument("16: claim 2", () -> x.whatIf(2, 1, 0));
        Check.argument("16: amount too great", () -> x.whatIf(0, GREATEST + 1, 0));
        Check.argument("16: treaty 3", () -> x.whatIf(0, 1, 3));
        for (int wrong : WRONG_NUMBERS) {
            Check.argument("16: claim " + wrong, () -> x.whatIf(wrong, 1, 0));
            Check.argument("16: amount " + wrong, () -> x.whatIf(0, wrong, 0));
            Check.argument("16: treaty " + wrong, () -> x.whatIf(0, 1, wrong));
        }
        x.year(0, false);
        Check.answers("16: a closed year", 200, () -> x.whatIf(0, 5000, 1));
        x.year(0, true);
        x.strike(0);
        Check.state("16: struck", () -> x.whatIf(0, 1, 0));
        Check.state("16: struck, another year", () -> x.whatIf(0, 1, 2));
        Check.argument("16: struck, but no such amount", () -> x.whatIf(0, -1, 0));
        Check.argument("16: struck, but no such treaty", () -> x.whatIf(0, 1, 3));
    }
}
