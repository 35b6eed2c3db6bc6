/**
 * The document's terms, windows of events, and what is taken of claims by parts (excesses of an event, stop losses):
 * one method for each sentence that names a boundary, on both sides of it: the last that is cut and the first that
 * isn't.
 */
public final class EventBoundsTest {
    private static final int GREATEST = 1_000_000_000;

    private EventBoundsTest() {
    }

    public static void main(String[] args) {
        windows();
        excessOfEvent();
        remainders();
        stopLoss();
        noWindow();
        nothingToDissolve();
        widePartsOfClaims();
        Check.end();
    }

    private static void windows() {
        windowOf72Hours();
        windowAtTheEnd();
        windowWithTheGreatestSum();
        windowTheEarliest();
        windowAtAClaim();
    }

    /** "from an hour h on, before h + 72" */
    private static void windowOf72Hours() {
        ReinsuranceDesk x = Desks.desk();
        x.treaty(30, 0, GREATEST, 0, 0);
        Desks.add(x, 1, 1000, 9);
        Desks.add(x, 1, 1071, 5);
        Desks.add(x, 1, 1072, 4);
        Desks.cededAre("71 hours later, and 72", x, 0, 9, 5, 0);
        ReinsuranceDesk y = Desks.desk();
        y.treaty(30, 0, GREATEST, 0, 0);
        Desks.add(y, 1, 1000, 9);
        Desks.add(y, 1, 999, 5);
        Desks.cededAre("an hour before is the beginning", y, 0, 9, 5);
        Check.answers("its window", 999, () -> y.window(0, 1));
    }

    /** The last window goes beyond hour 100,000. */
    private static void windowAtTheEnd() {
        ReinsuranceDesk x = Desks.desk();
        x.treaty(30, 0, GREATEST, 0, 0);
        Desks.add(x, 1, 100_000, 5);
        Desks.add(x, 1, 99_929, 5);
        Desks.add(x, 1, 99_928, 4);
        Desks.cededAre("at the end", x, 0, 5, 5, 0);
        Check.answers("71 hours before the end", 99_929, () -> x.window(0, 1));
        x.estimate(0, 20);
        x.estimate(1, 0);
        x.estimate(2, 19);
        Check.answers("with nothing in it, but earlier", 99_929, () -> x.window(0, 1));
        x.strike(1);
        Check.answers("the last hour", 100_000, () -> x.window(0, 1));
    }

    /** "in which the sum of what is kept is greatest" */
    private static void windowWithTheGreatestSum() {
        ReinsuranceDesk x = Desks.desk();
        x.treaty(30, 0, GREATEST, 0, 0);
        Desks.add(x, 1, 0, 100);
        Desks.add(x, 1, 500, 60);
        Desks.add(x, 1, 560, 39);
        Check.answers("99 is less than 100", 0, () -> x.window(0, 1));
        Desks.cededAre("99 is less than 100", x, 0, 100, 0, 0);
        x.estimate(2, 41);
        Check.answers("101 is more than 100", 500, () -> x.window(0, 1));
        Desks.cededAre("101 is more than 100", x, 0, 0, 60, 41);
        ReinsuranceDesk y = Desks.desk();
        y.treaty(30, 0, GREATEST, 0, 0);
        y.treaty(20, 30, 10, 0, 0);
        Desks.add(y, 1, 0, 40);
        Desks.add(y, 1, 500, 31);
        Check.answers("what is kept, not what was told", 500, () -> y.window(0, 1));
        y.estimate(1, 30);
        Check.answers("the same kept", 0, () -> y.window(0, 1));
    }

    /** "the earliest of the same ones" */
    private static void windowTheEarliest() {
        ReinsuranceDesk x = Desks.desk();
        x.treaty(30, 0, GREATEST, 0, 0);
        Desks.add(x, 1, 500, 100);
        Desks.add(x, 1, 300, 100);
        Desks.add(x, 1, 400, 100);
        Check.answers("three the same", 300, () -> x.window(0, 1));
        Desks.cededAre("three the same", x, 0, 0, 100, 0);
        x.estimate(2, 101);
        Check.answers("one cent more", 400, () -> x.window(0, 1));
        x.estimate(0, 101);
        Check.answers("two the same", 400, () -> x.window(0, 1));
        x.estimate(2, 100);
        Check.answers("the last alone", 500, () -> x.window(0, 1));
        x.estimate(0, 0);
        x.estimate(1, 0);
        x.estimate(2, 0);
        Check.answers("nothing in all of them", 300, () -> x.window(0, 1));
    }

    /** "h being the hour of one of these claims" */
    private static void windowAtAClaim() {
        ReinsuranceDesk x = Desks.desk();
        x.treaty(30, 0, GREATEST, 0, 0);
        Desks.add(x, 1, 100, 5);
        Desks.add(x, 2, 99, 5);
        Desks.add(x, 0, 98, 5);
        Check.answers("no earlier hour without a claim of the event", 100, () -> x.window(0, 1));
        Desks.add(x, 1, 99, 0);
        Check.answers("an earlier claim of nothing, with the same sum", 99, () -> x.window(0, 1));
        x.strike(3);
        Check.answers("a struck claim is none", 100, () -> x.window(0, 1));
    }

    private static void excessOfEvent() {
        eventsOneToNine();
        eventsInOrder();
        eventAboveA();
        eventAtMostB();
        eventDeductible();
        eventOfTheYear();
        eventByParts();
    }

    /** "an EVENT (0 none, 1 .. 9)" */
    private static void eventsOneToNine() {
        ReinsuranceDesk x = Desks.desk();
        x.treaty(30, 0, GREATEST, 0, 0);
        Desks.add(x, 0, 7, 10);
        Desks.add(x, 1, 8, 10);
        Desks.add(x, 9, 9, 10);
        Desks.cededAre("no event, the first, the last", x, 0, 0, 10, 10);
        Check.answers("the first", 8, () -> x.window(0, 1));
        Check.answers("the last", 9, () -> x.window(0, 9));
    }

    /** "events 1, 2, .. in order" */
    private static void eventsInOrder() {
        ReinsuranceDesk x = Desks.desk();
        x.treaty(30, 0, 100, 0, 0);
        Desks.add(x, 9, 0, 70);
        Desks.add(x, 2, 500, 70);
        Desks.cededAre("event 2, then 9", x, 0, 30, 70);
        Desks.add(x, 1, 900, 70);
        Desks.cededAre("event 1, then 2", x, 0, 0, 30, 70);
    }

    /** "of that sum what is above a" */
    private static void eventAboveA() {
        ReinsuranceDesk x = Desks.desk();
        x.treaty(30, 100, GREATEST, 0, 0);
        Desks.add(x, 1, 0, 60);
        Desks.add(x, 1, 1, 39);
        Check.answers("99", 0, () -> x.total(0, 0));
        x.estimate(1, 40);
        Check.answers("100", 0, () -> x.total(0, 0));
        x.estimate(1, 41);
        Check.answers("101", 1, () -> x.total(0, 0));
        Desks.cededAre("one cent, of the greatest remainder", x, 0, 1, 0);
    }

    /** "at most b" */
    private static void eventAtMostB() {
        ReinsuranceDesk x = Desks.desk();
        x.treaty(30, 100, 50, 5, 0);
        Desks.add(x, 1, 0, 100);
        Desks.add(x, 1, 1, 49);
        Check.answers("149", 49, () -> x.total(0, 0));
        x.estimate(1, 50);
        Check.answers("150", 50, () -> x.total(0, 0));
        x.estimate(1, 51);
        Check.answers("151", 50, () -> x.total(0, 0));
        Desks.add(x, 2, 0, 151);
        Check.answers("of each event", 100, () -> x.total(0, 0));
    }

    /** "d .. as above": the first d of all events together is not taken */
    private static void eventDeductible() {
        ReinsuranceDesk x = Desks.desk();
        x.treaty(30, 100, 50, 5, 60);
        Desks.add(x, 1, 0, 130);
        Desks.add(x, 2, 0, 130);
        Desks.cededAre("together 60", x, 0, 0, 0);
        x.estimate(1, 131);
        Desks.cededAre("together 61", x, 0, 0, 1);
        x.estimate(0, GREATEST);
        Desks.cededAre("of each event no more than b goes to it", x, 0, 0, 21);
    }

    /** "b * (1 + c) as above", for each number of reinstatements */
    private static void eventOfTheYear() {
        for (int c = 0; c <= 5; c++) {
            ReinsuranceDesk x = Desks.desk();
            x.treaty(30, 100, 50, c, 30);
            for (int event = 1; event <= 1 + c; event++) {
                Desks.add(x, event, 0, 150);
            }
            int last = Desks.add(x, 8, 0, 129);
            String name = " of events, reinstatements " + c;
            Check.answers("one cent less" + name, 29, () -> x.ceded(last, 0));
            Check.answers("one cent is left" + name, 1, () -> x.left(0));
            x.estimate(last, 130);
            Check.answers("all of it" + name, 30, () -> x.ceded(last, 0));
            Check.answers("nothing is left" + name, 0, () -> x.left(0));
            x.estimate(last, 131);
            Check.answers("one cent more is cut" + name, 30, () -> x.ceded(last, 0));
            int behind = Desks.add(x, 9, 0, 150);
            Check.answers("nothing behind it" + name, 0, () -> x.ceded(behind, 0));
            Check.answers("of the year together" + name, 50 * (1 + c), () -> x.total(0, 0));
        }
    }

    /** "It is taken of the window's claims by their parts of the sum, rounded down" */
    private static void eventByParts() {
        ReinsuranceDesk x = Desks.desk();
        x.treaty(30, 0, 100, 0, 0);
        Desks.add(x, 1, 0, 100);
        Desks.add(x, 1, 1, 300);
        Desks.add(x, 1, 5000, 399);
        Desks.add(x, 1, 2, 0);
        Desks.cededAre("quarters, without remainders", x, 0, 25, 75, 0, 0);
        x.estimate(1, 299);
        Desks.cededAre("the earlier of 399", x, 0, 25, 75, 0, 0);
        x.estimate(1, 298);
        Desks.cededAre("the later of 399", x, 0, 0, 0, 100, 0);
    }

    private static void remainders() {
        greatestRemaindersFirst();
        lowestNumberOfTheSame();
        allCentsButOne();
    }

    /** "what is left one cent each of those with the greatest remainders" */
    private static void greatestRemaindersFirst() {
        ReinsuranceDesk x = Desks.desk();
        x.treaty(30, 0, 10, 0, 0);
        Desks.add(x, 1, 0, 33);
        Desks.add(x, 1, 0, 33);
        Desks.add(x, 1, 0, 34);
        Desks.cededAre("3.3, 3.3, 3.4", x, 0, 3, 3, 4);
        x.estimate(1, 34);
        x.estimate(2, 33);
        Desks.cededAre("3.3, 3.4, 3.3", x, 0, 3, 4, 3);
        x.estimate(0, 38);
        x.estimate(1, 35);
        x.estimate(2, 27);
        Desks.cededAre("3.8, 3.5, 2.7: two cents", x, 0, 4, 3, 3);
    }

    /** "of the same ones the lowest number first" */
    private static void lowestNumberOfTheSame() {
        ReinsuranceDesk x = Desks.desk();
        x.treaty(30, 0, 10, 0, 0);
        Desks.add(x, 1, 30, 4);
        Desks.add(x, 1, 20, 4);
        Desks.add(x, 1, 10, 4);
        Desks.cededAre("one cent of three the same, not by hours", x, 0, 4, 3, 3);
        Desks.add(x, 1, 5, 3);
        Desks.cededAre("2.6, 2.6, 2.6, 2.0: two cents of three", x, 0, 3, 3, 2, 2);
    }

    /** "one cent each": as many cents as there are claims less one */
    private static void allCentsButOne() {
        ReinsuranceDesk x = Desks.desk();
        x.treaty(30, 0, 39, 0, 0);
        for (int claim = 0; claim < 40; claim++) {
            Desks.add(x, 1, 71 - claim, 1);
        }
        for (int claim = 0; claim < 40; claim++) {
            int c = claim;
            Check.answers("39 cents of 40 claims, claim " + c, c < 39 ? 1 : 0, () -> x.ceded(c, 0));
            Check.answers("39 cents of 40 claims, kept " + c, c < 39 ? 0 : 1, () -> x.kept(c));
        }
    }

    private static void stopLoss() {
        stopLossAboveA();
        stopLossAtMostB();
        stopLossOfAllClaims();
        stopLossByParts();
        oneCentKept();
    }

    /** "of the sum of all that is kept of the year what is above a" */
    private static void stopLossAboveA() {
        ReinsuranceDesk x = Desks.desk();
        x.treaty(40, 100, GREATEST, 0, 0);
        Desks.add(x, 0, 0, 50);
        Desks.add(x, 3, 9000, 49);
        Check.answers("stop loss of 99", 0, () -> x.total(0, 0));
        x.estimate(1, 50);
        Check.answers("stop loss of 100", 0, () -> x.total(0, 0));
        x.estimate(1, 51);
        Check.answers("stop loss of 101", 1, () -> x.total(0, 0));
        Desks.cededAre("stop loss of 101", x, 0, 0, 1);
    }

    /** "at most b" */
    private static void stopLossAtMostB() {
        ReinsuranceDesk x = Desks.desk();
        x.treaty(40, 100, 50, 0, 0);
        Desks.add(x, 0, 0, 100);
        Desks.add(x, 0, 0, 49);
        Check.answers("stop loss of 149", 49, () -> x.total(0, 0));
        x.estimate(1, 50);
        Check.answers("stop loss of 150", 50, () -> x.total(0, 0));
        x.estimate(1, 51);
        Check.answers("stop loss of 151", 50, () -> x.total(0, 0));
    }

    /** "the sum of all that is kept of the year": of no other year, at any hour, with any event, with none */
    private static void stopLossOfAllClaims() {
        ReinsuranceDesk x = Desks.desk();
        x.risk(1, 1000, 1);
        x.treaty(40, 0, 100, 0, 0);
        Desks.add(x, 0, 0, 50);
        Desks.add(x, 9, 100_000, 50);
        x.estimate(x.claim(1, 0, 0), 50);
        Desks.cededAre("stop loss of two of three", x, 0, 50, 50, 0);
        Check.answers("another year keeps all", 50, () -> x.kept(2));
    }

    /** "taken of all claims by parts as above" */
    private static void stopLossByParts() {
        ReinsuranceDesk x = Desks.desk();
        x.treaty(40, 0, 10, 0, 0);
        Desks.add(x, 0, 30, 4);
        Desks.add(x, 0, 20, 4);
        Desks.add(x, 0, 10, 4);
        Desks.cededAre("stop loss, the lowest number of the same", x, 0, 4, 3, 3);
        x.estimate(0, 38);
        x.estimate(1, 35);
        x.estimate(2, 27);
        Desks.cededAre("stop loss, the greatest remainders", x, 0, 4, 3, 3);
    }

    /** A sum of nothing is not divided by; a sum of one cent is the least that is. */
    private static void oneCentKept() {
        for (int kind = 3; kind < 5; kind++) {
            ReinsuranceDesk x = Desks.desk();
            x.treaty(10 * kind, 0, 100, 0, 0);
            Desks.add(x, 1, 0, 0);
            Desks.add(x, 1, 0, 0);
            Desks.cededAre("nothing kept, kind " + kind, x, 0, 0, 0);
            x.estimate(1, 1);
            Desks.cededAre("one cent kept, kind " + kind, x, 0, 0, 1);
        }
    }

    /** "-1 when there are no claims of it" */
    private static void noWindow() {
        ReinsuranceDesk x = Desks.desk();
        x.risk(1, 1000, 1);
        x.treaty(30, 0, 1, 0, 0);
        for (int event = 1; event <= 9; event++) {
            int e = event;
            Check.answers("no claims, event " + e, -1, () -> x.window(0, e));
        }
        x.claim(0, 0, 3);
        x.claim(0, 2, 3);
        x.claim(1, 1, 3);
        Check.answers("claims of no event, of another event, of another year", -1, () -> x.window(0, 1));
        x.claim(0, 1, 0);
        Check.answers("one claim of nothing, at hour 0", 0, () -> x.window(0, 1));
        x.strike(3);
        Check.answers("one claim, struck", -1, () -> x.window(0, 1));
        x.claim(0, 1, 7);
        Check.answers("another claim", 7, () -> x.window(0, 1));
        x.dissolve(1, 1);
        Check.answers("dissolved in another year", 7, () -> x.window(0, 1));
        x.dissolve(1, 0);
        Check.answers("dissolved", -1, () -> x.window(0, 1));
        Check.answers("another event is not", 3, () -> x.window(0, 2));
    }

    /** "its claims (that are not struck) have no event any more: how many" */
    private static void nothingToDissolve() {
        ReinsuranceDesk x = Desks.desk();
        x.risk(1, 1000, 1);
        Check.answers("no claims", 0, () -> x.dissolve(1, 0));
        x.claim(0, 0, 0);
        x.claim(0, 2, 0);
        x.claim(1, 1, 0);
        Check.answers("claims of no event, of another event, of another year", 0, () -> x.dissolve(1, 0));
        x.claim(0, 1, 0);
        x.claim(0, 1, 0);
        x.claim(0, 1, 0);
        x.strike(4);
        Check.answers("three, one of them struck", 2, () -> x.dissolve(1, 0));
        Check.answers("none any more", 0, () -> x.dissolve(1, 0));
        Check.answers("of another year", 1, () -> x.dissolve(1, 1));
        Check.answers("of another event", 1, () -> x.dissolve(2, 0));
    }

    /** What is kept times what is taken, and the sum of all that is kept, are above all int numbers. */
    private static void widePartsOfClaims() {
        for (int kind = 3; kind < 5; kind++) {
            ReinsuranceDesk x = Desks.desk();
            x.treaty(10 * kind, GREATEST, GREATEST, 0, 0);
            for (int claim = 0; claim < 39; claim++) {
                Desks.add(x, 1, claim, GREATEST);
            }
            Desks.add(x, 1, 0, GREATEST - 1);
            for (int claim = 0; claim < 40; claim++) {
                int c = claim;
                Check.answers("a fortieth, kind " + kind + ", claim " + c, 25_000_000, () -> x.ceded(c, 0));
                int kept = c < 39 ? 975_000_000 : 974_999_999;
                Check.answers("kept, kind " + kind + ", claim " + c, kept, () -> x.kept(c));
            }
        }
    }
}
