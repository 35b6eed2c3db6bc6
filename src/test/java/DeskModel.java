import java.math.BigInteger;
import java.util.ArrayList;
import java.util.Comparator;
import java.util.HashMap;
import java.util.List;
import java.util.Map;

/**
 * The document read once more, word by word and with numbers of any size: what RandomRunsTest holds the program
 * against. It shares no code with the program.
 */
final class DeskModel {
    private static final BigInteger MILLION = BigInteger.valueOf(1_000_000);
    private static final BigInteger ZERO = BigInteger.ZERO;

    private static final class Risk {
        BigInteger sum;
        BigInteger premium = ZERO;
        int year;
    }

    private static final class Claim {
        int number;
        Risk risk;
        int event;
        int hour;
        BigInteger estimate = ZERO;
        boolean struck;
        BigInteger kept;
    }

    private static final class Treaty {
        int kind;
        int year;
        BigInteger a;
        BigInteger b;
        BigInteger c;
        BigInteger d;
        final int[] shares = new int[6];
        final Map<Claim, BigInteger> takes = new HashMap<>();
        final Map<Integer, Integer> windows = new HashMap<>();
        BigInteger premium = ZERO;
        BigInteger deductibleLeft;
        BigInteger limitLeft;

        BigInteger taken() {
            return takes.values().stream().reduce(ZERO, BigInteger::add);
        }

        BigInteger ratio() {
            if (premium.signum() == 0) {
                return ZERO;
            }
            return taken().multiply(MILLION).divide(premium).min(big(9_000_000));
        }

        BigInteger commission() {
            BigInteger part = big(300_000);
            if (ratio().compareTo(big(400_000)) > 0) {
                part = part.subtract(ratio().subtract(big(400_000))).max(big(100_000));
            }
            return premium.multiply(part).divide(MILLION);
        }

        BigInteger reinstatement() {
            if (kind != 2 && kind != 3) {
                return ZERO;
            }
            BigInteger price = b.multiply(big(100_000)).divide(MILLION);
            return price.multiply(taken().min(b.multiply(c))).divide(b);
        }

        BigInteger shareOf(BigInteger amount, int reinsurer) {
            return amount.multiply(big(shares[reinsurer])).divide(MILLION);
        }
    }

    private final Risk[] risks = new Risk[12];
    private final List<Claim> claims = new ArrayList<>();
    private final List<Treaty> treaties = new ArrayList<>();
    private final boolean[] open = {true, true, true, true};
    private final BigInteger[] billed = {ZERO, ZERO, ZERO, ZERO, ZERO, ZERO};

    private static BigInteger big(long number) {
        return BigInteger.valueOf(number);
    }

    private static void need(boolean so) {
        if (!so) {
            throw new IllegalArgumentException();
        }
    }

    private static void allow(boolean so) {
        if (!so) {
            throw new IllegalStateException();
        }
    }

    private static void needIn(int number, int least, int greatest) {
        need(least <= number && number <= greatest);
    }

    private static void needAmount(int amount) {
        needIn(amount, 0, 1_000_000_000);
    }

    private Risk riskOf(int risk) {
        needIn(risk, 0, 11);
        need(risks[risk] != null);
        return risks[risk];
    }

    private Claim claimOf(int claim) {
        needIn(claim, 0, claims.size() - 1);
        return claims.get(claim);
    }

    private Treaty treatyOf(int treaty) {
        needIn(treaty, 0, treaties.size() - 1);
        return treaties.get(treaty);
    }

    void risk(int risk, int sum, int year) {
        needIn(risk, 0, 11);
        needAmount(sum);
        need(sum >= 1);
        needIn(year, 0, 3);
        allow(risks[risk] == null);
        allow(open[year]);
        Risk told = new Risk();
        told.sum = big(sum);
        told.year = year;
        risks[risk] = told;
    }

    void premium(int risk, int amount) {
        Risk told = riskOf(risk);
        needAmount(amount);
        allow(open[told.year]);
        told.premium = big(amount);
    }

    int treaty(int shape, int a, int b, int c, int d) {
        needIn(shape, 0, 49);
        int kind = shape / 10;
        needIn(shape - 10 * kind, 0, 3);
        needAmount(a);
        needAmount(b);
        need(b >= 1);
        if (kind == 0) {
            needIn(a, 1, 1_000_000);
        }
        if (kind == 1) {
            need(a >= 1);
            needIn(b, 1, 20);
        }
        if (kind == 2 || kind == 3) {
            needIn(c, 0, 5);
            needAmount(d);
        } else {
            need(c == 0 && d == 0);
        }
        allow(treaties.size() < 10);
        allow(open[shape - 10 * kind]);
        Treaty told = new Treaty();
        told.kind = kind;
        told.year = shape - 10 * kind;
        told.a = big(a);
        told.b = big(b);
        told.c = big(c);
        told.d = big(d);
        treaties.add(told);
        return treaties.size() - 1;
    }

    void share(int treaty, int reinsurer, int part) {
        Treaty told = treatyOf(treaty);
        needIn(reinsurer, 0, 5);
        needIn(part, 0, 1_000_000);
        int[] shares = told.shares.clone();
        shares[reinsurer] = part;
        long together = 0;
        for (int share : shares) {
            together += share;
        }
        allow(together <= 1_000_000);
        allow(open[told.year]);
        told.shares[reinsurer] = part;
    }

    int claim(int risk, int event, int hour) {
        Risk told = riskOf(risk);
        needIn(event, 0, 9);
        needIn(hour, 0, 100_000);
        allow(claims.size() < 40);
        allow(open[told.year]);
        Claim claim = new Claim();
        claim.number = claims.size();
        claim.risk = told;
        claim.event = event;
        claim.hour = hour;
        claims.add(claim);
        return claim.number;
    }

    void estimate(int claim, int amount) {
        Claim told = claimOf(claim);
        needAmount(amount);
        allow(!told.struck);
        allow(open[told.risk.year]);
        told.estimate = big(amount);
    }

    void strike(int claim) {
        Claim told = claimOf(claim);
        allow(!told.struck);
        allow(open[told.risk.year]);
        told.struck = true;
    }

    int dissolve(int event, int year) {
        needIn(event, 1, 9);
        needIn(year, 0, 3);
        allow(open[year]);
        int many = 0;
        for (Claim claim : living(year)) {
            if (claim.event == event) {
                claim.event = 0;
                many++;
            }
        }
        return many;
    }

    long kept(int claim) {
        Claim told = claimOf(claim);
        settleAll();
        return told.struck ? 0 : told.kept.longValueExact();
    }

    long ceded(int claim, int treaty) {
        Claim told = claimOf(claim);
        Treaty by = treatyOf(treaty);
        settleAll();
        return by.takes.getOrDefault(told, ZERO).longValueExact();
    }

    long left(int treaty) {
        Treaty told = treatyOf(treaty);
        need(told.kind == 2 || told.kind == 3);
        settleAll();
        return told.b.multiply(told.c.add(BigInteger.ONE)).subtract(told.taken()).longValueExact();
    }

    long window(int treaty, int event) {
        Treaty told = treatyOf(treaty);
        need(told.kind == 3);
        needIn(event, 1, 9);
        settleAll();
        return told.windows.getOrDefault(event, -1);
    }

    long total(int treaty, int what) {
        Treaty told = treatyOf(treaty);
        needIn(what, 0, 3);
        settleAll();
        BigInteger[] all = {told.taken(), told.premium, told.ratio(), told.commission()};
        return all[what].longValueExact();
    }

    long due(int treaty, int reinsurer, int what) {
        Treaty told = treatyOf(treaty);
        needIn(reinsurer, 0, 5);
        needIn(what, 0, 1);
        settleAll();
        return told.shareOf(what == 0 ? told.taken() : told.reinstatement(), reinsurer).longValueExact();
    }

    long whatIf(int claim, int amount, int treaty) {
        Claim told = claimOf(claim);
        needAmount(amount);
        Treaty by = treatyOf(treaty);
        allow(!told.struck);
        BigInteger before = told.estimate;
        told.estimate = big(amount);
        settleAll();
        told.estimate = before;
        return by.takes.getOrDefault(told, ZERO).longValueExact();
    }

    long bill(int reinsurer) {
        needIn(reinsurer, 0, 5);
        settleAll();
        BigInteger bill = ZERO;
        for (Treaty treaty : treaties) {
            if (open[treaty.year]) {
                bill = bill.add(treaty.shareOf(treaty.taken(), reinsurer));
                bill = bill.add(treaty.shareOf(treaty.commission(), reinsurer));
                bill = bill.subtract(treaty.shareOf(treaty.premium, reinsurer));
                bill = bill.subtract(treaty.shareOf(treaty.reinstatement(), reinsurer));
            }
        }
        BigInteger difference = bill.subtract(billed[reinsurer]);
        billed[reinsurer] = billed[reinsurer].add(difference);
        return difference.longValueExact();
    }

    void year(int year, boolean toOpen) {
        needIn(year, 0, 3);
        allow(open[year] != toOpen);
        open[year] = toOpen;
    }

    private List<Claim> living(int year) {
        List<Claim> living = new ArrayList<>();
        for (Claim claim : claims) {
            if (!claim.struck && claim.risk.year == year) {
                living.add(claim);
            }
        }
        return living;
    }

    private void settleAll() {
        for (Claim claim : claims) {
            claim.kept = claim.estimate;
        }
        Map<Risk, BigInteger> premiums = new HashMap<>();
        for (Risk risk : risks) {
            if (risk != null) {
                premiums.put(risk, risk.premium);
            }
        }
        List<Treaty> ordered = new ArrayList<>(treaties);
        ordered.sort(Comparator.comparingInt((Treaty t) -> t.kind).thenComparingInt(treaties::indexOf));
        for (Treaty treaty : ordered) {
            treaty.takes.clear();
            treaty.windows.clear();
            treaty.premium = ZERO;
            treaty.deductibleLeft = treaty.d;
            treaty.limitLeft = treaty.b.multiply(treaty.c.add(BigInteger.ONE));
            settle(treaty, living(treaty.year), premiums);
        }
    }

    private void settle(Treaty treaty, List<Claim> year, Map<Risk, BigInteger> premiums) {
        if (treaty.kind <= 1) {
            for (Claim claim : year) {
                take(treaty, claim, claim.kept.multiply(part(treaty, claim.risk)).divide(MILLION));
            }
            for (Map.Entry<Risk, BigInteger> left : premiums.entrySet()) {
                if (left.getKey().year == treaty.year) {
                    BigInteger gone = left.getValue().multiply(part(treaty, left.getKey())).divide(MILLION);
                    treaty.premium = treaty.premium.add(gone);
                    left.setValue(left.getValue().subtract(gone));
                }
            }
        } else if (treaty.kind == 2) {
            List<Claim> byHours = new ArrayList<>(year);
            byHours.sort(Comparator.comparingInt((Claim c) -> c.hour).thenComparingInt(c -> c.number));
            for (Claim claim : byHours) {
                take(treaty, claim, limited(treaty, layer(treaty, claim.kept)));
            }
        } else if (treaty.kind == 3) {
            for (int event = 1; event <= 9; event++) {
                settleEvent(treaty, year, event);
            }
        } else {
            takeByParts(treaty, year, layer(treaty, sumKept(year)));
        }
    }

    private void settleEvent(Treaty treaty, List<Claim> year, int event) {
        List<Claim> best = null;
        for (int hour = 0; hour <= 100_000; hour++) {
            List<Claim> within = windowAt(year, event, hour);
            if (within != null && (best == null || sumKept(within).compareTo(sumKept(best)) > 0)) {
                best = within;
                treaty.windows.put(event, hour);
            }
            hour = nextHour(year, event, hour) - 1;
        }
        if (best != null) {
            takeByParts(treaty, best, limited(treaty, layer(treaty, sumKept(best))));
        }
    }

    /** The hours between those of the event's claims are no beginnings: they are left out. */
    private static int nextHour(List<Claim> year, int event, int hour) {
        int next = 100_001;
        for (Claim claim : year) {
            if (claim.event == event && claim.hour > hour) {
                next = Math.min(next, claim.hour);
            }
        }
        return next;
    }

    private static List<Claim> windowAt(List<Claim> year, int event, int hour) {
        List<Claim> within = new ArrayList<>();
        boolean begins = false;
        for (Claim claim : year) {
            if (claim.event == event && claim.hour - hour >= 0 && claim.hour - hour <= 71) {
                within.add(claim);
                begins |= claim.hour == hour;
            }
        }
        return begins ? within : null;
    }

    private static BigInteger part(Treaty treaty, Risk risk) {
        if (treaty.kind == 0) {
            if (risk.sum.compareTo(treaty.b) <= 0) {
                return treaty.a;
            }
            return treaty.a.multiply(treaty.b).divide(risk.sum);
        }
        BigInteger above = risk.sum.subtract(treaty.a).max(ZERO).min(treaty.a.multiply(treaty.b));
        return above.multiply(MILLION).divide(risk.sum);
    }

    private static BigInteger sumKept(List<Claim> some) {
        BigInteger sum = ZERO;
        for (Claim claim : some) {
            sum = sum.add(claim.kept);
        }
        return sum;
    }

    private static BigInteger layer(Treaty treaty, BigInteger amount) {
        return amount.subtract(treaty.a).max(ZERO).min(treaty.b);
    }

    private static BigInteger limited(Treaty treaty, BigInteger layer) {
        BigInteger borne = layer.min(treaty.deductibleLeft);
        treaty.deductibleLeft = treaty.deductibleLeft.subtract(borne);
        BigInteger takes = layer.subtract(borne).min(treaty.limitLeft);
        treaty.limitLeft = treaty.limitLeft.subtract(takes);
        return takes;
    }

    private static void take(Treaty treaty, Claim claim, BigInteger amount) {
        claim.kept = claim.kept.subtract(amount);
        treaty.takes.merge(claim, amount, BigInteger::add);
    }

    private static void takeByParts(Treaty treaty, List<Claim> some, BigInteger amount) {
        BigInteger sum = sumKept(some);
        if (sum.signum() == 0) {
            return;
        }
        BigInteger rest = amount;
        Map<Claim, BigInteger> remainders = new HashMap<>();
        for (Claim claim : some) {
            BigInteger[] quotient = claim.kept.multiply(amount).divideAndRemainder(sum);
            remainders.put(claim, quotient[1]);
            take(treaty, claim, quotient[0]);
            rest = rest.subtract(quotient[0]);
        }
        List<Claim> byRemainder = new ArrayList<>(some);
        byRemainder.sort(Comparator.comparing((Claim c) -> remainders.get(c)).reversed().thenComparingInt(c -> c.number));
        for (int cent = 0; cent < rest.intValueExact(); cent++) {
            take(treaty, byRemainder.get(cent), BigInteger.ONE);
        }
    }
}
