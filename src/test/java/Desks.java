/** What the tests of bounds begin with. */
final class Desks {
    private Desks() {
    }

    /** Year 0 with risk 0, whose sum is 1000. */
    static ReinsuranceDesk desk() {
        ReinsuranceDesk x = new ReinsuranceDesk();
        x.risk(0, 1000, 0);
        return x;
    }

    /** A claim of risk 0. */
    static int add(ReinsuranceDesk x, int event, int hour, int amount) {
        int claim = x.claim(0, event, hour);
        x.estimate(claim, amount);
        return claim;
    }

    /** What the treaty takes of claims 0, 1, .. */
    static void cededAre(String what, ReinsuranceDesk x, int treaty, int... due) {
        for (int claim = 0; claim < due.length; claim++) {
            int c = claim;
            Check.answers(what + ", ceded(" + c + ", " + treaty + ")", due[c], () -> x.ceded(c, treaty));
        }
    }
}
