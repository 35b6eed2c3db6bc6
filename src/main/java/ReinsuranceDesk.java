import java.util.Arrays;

/**
 * A reinsurance desk: what treaties of a year take of claims, one treaty behind the other, what is kept, what
 * reinsurers have to pay, premiums, commissions that slide, and bills that can be booked.
 */
public final class ReinsuranceDesk {
    private static final int MILLION = 1_000_000;
    private static final int GREATEST_AMOUNT = 1_000_000_000;
    private static final int GREATEST_HOUR = 100_000;
    private static final int YEARS = 4;
    private static final int RISKS = 12;
    private static final int CLAIMS = 40;
    private static final int TREATIES = 10;
    private static final int REINSURERS = 6;
    /** Event 0 is none, so that the events of claims are 1 .. 9. */
    private static final int EVENTS = 10;

    private static final int QUOTA = 0;
    private static final int SURPLUS = 1;
    private static final int RISK_EXCESS = 2;
    private static final int EVENT_EXCESS = 3;
    private static final int KINDS = 5;
    private static final int MOST_LINES = 20;
    private static final int MOST_REINSTATEMENTS = 5;
    private static final int WINDOW_HOURS = 72;
    private static final int REINSTATEMENT_PART = 100_000;

    private static final int GREATEST_RATIO = 9_000_000;
    private static final int RATIO_OF_FULL_COMMISSION = 400_000;
    private static final int GREATEST_COMMISSION = 300_000;
    private static final int LEAST_COMMISSION = 100_000;

    private static final int TAKEN = 0;
    private static final int PREMIUM = 1;
    private static final int RATIO = 2;
    private static final int COMMISSION = 3;
    private static final int RECOVERED = 0;
    private static final int REINSTATEMENT = 1;

    private final Risks risks;
    private final Claims claims;
    private final Treaties treaties;
    private final Cession cession;
    private final boolean[] closed;
    private final long[] billed;

    public ReinsuranceDesk() {
        risks = new Risks();
        claims = new Claims();
        treaties = new Treaties();
        cession = new Cession(risks, claims, treaties);
        closed = new boolean[YEARS];
        billed = new long[REINSURERS];
    }

    public void risk(int risk, int sum, int year) throws IllegalArgumentException, IllegalStateException {
        if (!isBelow(risk, RISKS) || !isFromOne(sum, GREATEST_AMOUNT) || !isBelow(year, YEARS)) {
            throw new IllegalArgumentException("no such risk, sum or year");
        }
        if (risks.isTold(risk) || closed[year]) {
            throw new IllegalStateException("the risk is told, or the year is closed");
        }
        risks.sum[risk] = sum;
        risks.yearOf[risk] = year;
    }

    public void premium(int risk, int amount) throws IllegalArgumentException, IllegalStateException {
        if (!risks.isTold(risk) || !isAmount(amount)) {
            throw new IllegalArgumentException("no such risk or amount");
        }
        if (closed[risks.yearOf[risk]]) {
            throw new IllegalStateException("the year is closed");
        }
        risks.premiumOf[risk] = amount;
    }

    public int treaty(int shape, int a, int b, int c, int d) throws IllegalArgumentException, IllegalStateException {
        if (!isShape(shape) || !areTerms(shape / 10, a, b, c, d)) {
            throw new IllegalArgumentException("no such treaty");
        }
        if (treaties.count >= TREATIES || closed[shape % 10]) {
            throw new IllegalStateException("there are no more treaties, or the year is closed");
        }
        return treaties.add(shape, a, b, c, d);
    }

    public void share(int treaty, int reinsurer, int part) throws IllegalArgumentException, IllegalStateException {
        if (!treaties.has(treaty) || !isBelow(reinsurer, REINSURERS) || part < 0 || part > MILLION) {
            throw new IllegalArgumentException("no such treaty, reinsurer or part");
        }
        if (closed[treaties.yearOf[treaty]] || treaties.partsOfOthers(treaty, reinsurer) + part > MILLION) {
            throw new IllegalStateException("the shares would be too much, or the year is closed");
        }
        treaties.part[treaty * REINSURERS + reinsurer] = part;
    }

    public int claim(int risk, int event, int hour) throws IllegalArgumentException, IllegalStateException {
        if (!risks.isTold(risk) || !isBelow(event, EVENTS) || hour < 0 || hour > GREATEST_HOUR) {
            throw new IllegalArgumentException("no such risk, event or hour");
        }
        if (claims.count >= CLAIMS || closed[risks.yearOf[risk]]) {
            throw new IllegalStateException("there are no more claims, or the year is closed");
        }
        return claims.add(risk, event, hour);
    }

    public void estimate(int claim, int amount) throws IllegalArgumentException, IllegalStateException {
        if (!claims.has(claim) || !isAmount(amount)) {
            throw new IllegalArgumentException("no such claim or amount");
        }
        if (claims.struck[claim] || closed[yearOfClaim(claim)]) {
            throw new IllegalStateException("the claim is struck, or the year is closed");
        }
        claims.amount[claim] = amount;
    }

    public void strike(int claim) throws IllegalArgumentException, IllegalStateException {
        if (!claims.has(claim)) {
            throw new IllegalArgumentException("no such claim");
        }
        if (claims.struck[claim] || closed[yearOfClaim(claim)]) {
            throw new IllegalStateException("the claim is struck, or the year is closed");
        }
        claims.struck[claim] = true;
    }

    public int dissolve(int event, int year) throws IllegalArgumentException, IllegalStateException {
        if (!isFromOne(event, EVENTS - 1) || !isBelow(year, YEARS)) {
            throw new IllegalArgumentException("no such event or year");
        }
        if (closed[year]) {
            throw new IllegalStateException("the year is closed");
        }
        int freed = 0;
        for (int claim = 0; claim < claims.count; claim++) {
            if (claims.event[claim] == event && !claims.struck[claim] && yearOfClaim(claim) == year) {
                claims.event[claim] = 0;
                freed++;
            }
        }
        return freed;
    }

    public int kept(int claim) throws IllegalArgumentException {
        if (!claims.has(claim)) {
            throw new IllegalArgumentException("no such claim");
        }
        cession.workOut(yearOfClaim(claim));
        return cession.keptOf[claim];
    }

    public int ceded(int claim, int treaty) throws IllegalArgumentException {
        if (!claims.has(claim) || !treaties.has(treaty)) {
            throw new IllegalArgumentException("no such claim or treaty");
        }
        cession.workOut(yearOfClaim(claim));
        return cession.cededOf[treaty * CLAIMS + claim];
    }

    public long left(int treaty) throws IllegalArgumentException {
        if (!treaties.has(treaty) || !treaties.isExcess(treaty)) {
            throw new IllegalArgumentException("no such excess");
        }
        cession.workOut(treaties.yearOf[treaty]);
        return treaties.limitOf(treaty) - cession.taken[treaty];
    }

    public int window(int treaty, int event) throws IllegalArgumentException {
        if (!treaties.has(treaty) || treaties.kind[treaty] != EVENT_EXCESS || !isFromOne(event, EVENTS - 1)) {
            throw new IllegalArgumentException("no such excess or event");
        }
        cession.workOut(treaties.yearOf[treaty]);
        return cession.windowOf[treaty * EVENTS + event];
    }

    public long total(int treaty, int what) throws IllegalArgumentException {
        if (!treaties.has(treaty) || what < TAKEN || what > COMMISSION) {
            throw new IllegalArgumentException("no such treaty or what");
        }
        cession.workOut(treaties.yearOf[treaty]);
        switch (what) {
            case TAKEN:
                return cession.taken[treaty];
            case PREMIUM:
                return cession.premiumTo[treaty];
            case RATIO:
                return cession.ratioOf(treaty);
            default:
                return cession.commissionOf(treaty);
        }
    }

    public long due(int treaty, int reinsurer, int what) throws IllegalArgumentException {
        if (!treaties.has(treaty) || !isBelow(reinsurer, REINSURERS) || what < RECOVERED || what > REINSTATEMENT) {
            throw new IllegalArgumentException("no such treaty, reinsurer or what");
        }
        cession.workOut(treaties.yearOf[treaty]);
        if (what == RECOVERED) {
            return treaties.partOf(cession.taken[treaty], treaty, reinsurer);
        }
        return treaties.partOf(cession.reinstatementOf(treaty), treaty, reinsurer);
    }

    public int whatIf(int claim, int amount, int treaty) throws IllegalArgumentException, IllegalStateException {
        if (!claims.has(claim) || !isAmount(amount) || !treaties.has(treaty)) {
            throw new IllegalArgumentException("no such claim, amount or treaty");
        }
        if (claims.struck[claim]) {
            throw new IllegalStateException("the claim is struck");
        }
        cession.workOutSupposing(yearOfClaim(claim), claim, amount);
        return cession.cededOf[treaty * CLAIMS + claim];
    }

    public long bill(int reinsurer) throws IllegalArgumentException {
        if (!isBelow(reinsurer, REINSURERS)) {
            throw new IllegalArgumentException("no such reinsurer");
        }
        long owed = 0;
        for (int year = 0; year < YEARS; year++) {
            if (!closed[year]) {
                cession.workOut(year);
                owed += cession.owedBy(reinsurer, year);
            }
        }
        long difference = owed - billed[reinsurer];
        billed[reinsurer] = owed;
        return difference;
    }

    public void year(int year, boolean open) throws IllegalArgumentException, IllegalStateException {
        if (!isBelow(year, YEARS)) {
            throw new IllegalArgumentException("no such year");
        }
        if (closed[year] != open) {
            throw new IllegalStateException("the year is so");
        }
        closed[year] = !open;
    }

    private int yearOfClaim(int claim) {
        return risks.yearOf[claims.riskOf[claim]];
    }

    private static boolean isBelow(int number, int end) {
        return number >= 0 && number < end;
    }

    private static boolean isFromOne(int number, int greatest) {
        return number >= 1 && number <= greatest;
    }

    private static boolean isAmount(int amount) {
        return amount >= 0 && amount <= GREATEST_AMOUNT;
    }

    private static boolean isShape(int shape) {
        return isBelow(shape, 10 * KINDS) && shape % 10 < YEARS;
    }

    private static boolean areTerms(int kind, int a, int b, int c, int d) {
        switch (kind) {
            case QUOTA:
                return isFromOne(a, MILLION) && isFromOne(b, GREATEST_AMOUNT) && c == 0 && d == 0;
            case SURPLUS:
                return isFromOne(a, GREATEST_AMOUNT) && isFromOne(b, MOST_LINES) && c == 0 && d == 0;
            case RISK_EXCESS:
            case EVENT_EXCESS:
                return isAmount(a) && isFromOne(b, GREATEST_AMOUNT) && isBelow(c, MOST_REINSTATEMENTS + 1) && isAmount(d);
            default:
                return isAmount(a) && isFromOne(b, GREATEST_AMOUNT) && c == 0 && d == 0;
        }
    }

    /** The risks; one that is not told has the sum 0. */
    private static final class Risks {
        final int[] sum;
        final int[] premiumOf;
        final int[] yearOf;

        Risks() {
            sum = new int[RISKS];
            premiumOf = new int[RISKS];
            yearOf = new int[RISKS];
        }

        boolean isTold(int risk) {
            return risk >= 0 && risk < RISKS && sum[risk] > 0;
        }
    }

    /** The claims, and their numbers in order of hours. */
    private static final class Claims {
        int count;
        final int[] riskOf;
        final int[] event;
        final int[] hour;
        final int[] amount;
        final boolean[] struck;
        final int[] byHour;

        Claims() {
            riskOf = new int[CLAIMS];
            event = new int[CLAIMS];
            hour = new int[CLAIMS];
            amount = new int[CLAIMS];
            struck = new boolean[CLAIMS];
            byHour = new int[CLAIMS];
        }

        boolean has(int claim) {
            return claim >= 0 && claim < count;
        }

        int add(int newRisk, int newEvent, int newHour) {
            int claim = count;
            riskOf[claim] = newRisk;
            event[claim] = newEvent;
            hour[claim] = newHour;
            placeByHour(claim);
            count = claim + 1;
            return claim;
        }

        /** A new claim has the highest number, so it stands behind all claims of its hour. */
        private void placeByHour(int claim) {
            int place = claim;
            while (place > 0 && hour[byHour[place - 1]] > hour[claim]) {
                byHour[place] = byHour[place - 1];
                place--;
            }
            byHour[place] = claim;
        }
    }

    /** The treaties with their terms, and the parts that reinsurers have of them. */
    private static final class Treaties {
        int count;
        final int[] kind;
        final int[] yearOf;
        final long[] a;
        final long[] b;
        final long[] c;
        final long[] d;
        final int[] part;

        Treaties() {
            kind = new int[TREATIES];
            yearOf = new int[TREATIES];
            a = new long[TREATIES];
            b = new long[TREATIES];
            c = new long[TREATIES];
            d = new long[TREATIES];
            part = new int[TREATIES * REINSURERS];
        }

        boolean has(int treaty) {
            return treaty >= 0 && treaty < count;
        }

        boolean isExcess(int treaty) {
            return kind[treaty] == RISK_EXCESS || kind[treaty] == EVENT_EXCESS;
        }

        int add(int shape, int newA, int newB, int newC, int newD) {
            int treaty = count;
            kind[treaty] = shape / 10;
            yearOf[treaty] = shape % 10;
            a[treaty] = newA;
            b[treaty] = newB;
            c[treaty] = newC;
            d[treaty] = newD;
            count = treaty + 1;
            return treaty;
        }

        int partsOfOthers(int treaty, int reinsurer) {
            int parts = 0;
            for (int other = 0; other < REINSURERS; other++) {
                if (other != reinsurer) {
                    parts += part[treaty * REINSURERS + other];
                }
            }
            return parts;
        }

        long partOf(long amount, int treaty, int reinsurer) {
            return amount * part[treaty * REINSURERS + reinsurer] / MILLION;
        }

        /** The part that a quota or a surplus takes of a risk with this sum insured. */
        long partOfRisk(int treaty, long sum) {
            if (sum <= 0) {
                return 0;
            }
            if (kind[treaty] == QUOTA) {
                return sum <= b[treaty] ? a[treaty] : a[treaty] * b[treaty] / sum;
            }
            long above = Math.max(sum - a[treaty], 0L);
            return MILLION * Math.min(above, a[treaty] * b[treaty]) / sum;
        }

        /** What is above a, at most b. */
        long layerOf(int treaty, long amount) {
            return Math.min(Math.max(amount - a[treaty], 0L), b[treaty]);
        }

        /** What an excess may take of the year. */
        long limitOf(int treaty) {
            return b[treaty] * (1 + c[treaty]);
        }

        /** What an excess takes of all that its layers were so far, behind its deductible and up to its limit. */
        long takenOfLayers(int treaty, long layers) {
            return Math.min(Math.max(layers - d[treaty], 0L), limitOf(treaty));
        }
    }

    /**
     * What the treaties of one year take. It is worked out anew for each question, so that no answer can be out of
     * date; the rows are used again.
     */
    private static final class Cession {
        private final Risks risks;
        private final Claims claims;
        private final Treaties treaties;
        private final boolean[] counts;
        final int[] keptOf;
        final int[] cededOf;
        final long[] taken;
        final int[] windowOf;
        private final long[] premiumLeft;
        final long[] premiumTo;
        /** The claims that a treaty takes of together, lowest number first. */
        private final int[] group;
        private int groupSize;
        private final long[] remainder;

        Cession(Risks ofRisks, Claims ofClaims, Treaties ofTreaties) {
            risks = ofRisks;
            claims = ofClaims;
            treaties = ofTreaties;
            counts = new boolean[CLAIMS];
            keptOf = new int[CLAIMS];
            cededOf = new int[TREATIES * CLAIMS];
            taken = new long[TREATIES];
            windowOf = new int[TREATIES * EVENTS];
            premiumLeft = new long[RISKS];
            premiumTo = new long[TREATIES];
            group = new int[CLAIMS];
            remainder = new long[CLAIMS];
        }

        void workOut(int year) {
            begin(year);
            cedeYear(year);
        }

        void workOutSupposing(int year, int claim, int amount) {
            begin(year);
            keptOf[claim] = amount;
            cedeYear(year);
        }

        private void begin(int year) {
            Arrays.fill(cededOf, 0);
            Arrays.fill(taken, 0L);
            Arrays.fill(premiumTo, 0L);
            Arrays.fill(windowOf, -1);
            for (int claim = 0; claim < claims.count; claim++) {
                counts[claim] = !claims.struck[claim] && risks.yearOf[claims.riskOf[claim]] == year;
                keptOf[claim] = counts[claim] ? claims.amount[claim] : 0;
            }
            for (int risk = 0; risk < RISKS; risk++) {
                premiumLeft[risk] = risks.yearOf[risk] == year ? risks.premiumOf[risk] : 0;
            }
        }

        private void cedeYear(int year) {
            for (int kind = 0; kind < KINDS; kind++) {
                for (int treaty = 0; treaty < treaties.count; treaty++) {
                    if (treaties.kind[treaty] == kind && treaties.yearOf[treaty] == year) {
                        cedeTo(treaty);
                    }
                }
            }
        }

        private void cedeTo(int treaty) {
            switch (treaties.kind[treaty]) {
                case QUOTA:
                case SURPLUS:
                    cedePremiums(treaty);
                    cedePartOfEachClaim(treaty);
                    break;
                case RISK_EXCESS:
                    cedeExcessOfEachClaim(treaty);
                    break;
                case EVENT_EXCESS:
                    cedeExcessOfEachEvent(treaty);
                    break;
                default:
                    cedeStopLoss(treaty);
                    break;
            }
        }

        private void take(int treaty, int claim, long amount) {
            keptOf[claim] -= (int) amount;
            cededOf[treaty * CLAIMS + claim] += (int) amount;
            taken[treaty] += amount;
        }

        private void cedePremiums(int treaty) {
            for (int risk = 0; risk < RISKS; risk++) {
                long amount = premiumLeft[risk] * treaties.partOfRisk(treaty, risks.sum[risk]) / MILLION;
                premiumLeft[risk] -= amount;
                premiumTo[treaty] += amount;
            }
        }

        private void cedePartOfEachClaim(int treaty) {
            for (int claim = 0; claim < claims.count; claim++) {
                if (counts[claim]) {
                    long part = treaties.partOfRisk(treaty, risks.sum[claims.riskOf[claim]]);
                    take(treaty, claim, keptOf[claim] * part / MILLION);
                }
            }
        }

        private void cedeExcessOfEachClaim(int treaty) {
            long layers = 0;
            for (int place = 0; place < claims.count; place++) {
                int claim = claims.byHour[place];
                if (counts[claim]) {
                    layers += treaties.layerOf(treaty, keptOf[claim]);
                    take(treaty, claim, treaties.takenOfLayers(treaty, layers) - taken[treaty]);
                }
            }
        }

        private void cedeExcessOfEachEvent(int treaty) {
            long layers = 0;
            for (int event = 1; event < EVENTS; event++) {
                gatherEvent(event);
                if (groupSize > 0) {
                    int start = startOfWindow();
                    windowOf[treaty * EVENTS + event] = start;
                    dropOutside(start);
                    layers += treaties.layerOf(treaty, keptFrom(start));
                    takeByParts(treaty, treaties.takenOfLayers(treaty, layers) - taken[treaty], keptFrom(start));
                }
            }
        }

        private void cedeStopLoss(int treaty) {
            groupSize = 0;
            long sum = 0;
            for (int claim = 0; claim < claims.count; claim++) {
                if (counts[claim]) {
                    group[groupSize] = claim;
                    groupSize++;
                    sum += keptOf[claim];
                }
            }
            takeByParts(treaty, treaties.layerOf(treaty, sum), sum);
        }

        private void gatherEvent(int event) {
            groupSize = 0;
            for (int claim = 0; claim < claims.count; claim++) {
                if (counts[claim] && claims.event[claim] == event) {
                    group[groupSize] = claim;
                    groupSize++;
                }
            }
        }

        private long keptFrom(int start) {
            long sum = 0;
            for (int member = 0; member < groupSize; member++) {
                int hour = claims.hour[group[member]];
                if (hour >= start && hour < start + WINDOW_HOURS) {
                    sum += keptOf[group[member]];
                }
            }
            return sum;
        }

        private int startOfWindow() {
            int best = -1;
            long bestSum = -1;
            for (int member = 0; member < groupSize; member++) {
                int start = claims.hour[group[member]];
                long sum = keptFrom(start);
                if (sum > bestSum || (sum == bestSum && start < best)) {
                    best = start;
                    bestSum = sum;
                }
            }
            return best;
        }

        private void dropOutside(int start) {
            int inside = 0;
            for (int member = 0; member < groupSize; member++) {
                int hour = claims.hour[group[member]];
                if (hour >= start && hour < start + WINDOW_HOURS) {
                    group[inside] = group[member];
                    inside++;
                }
            }
            groupSize = inside;
        }

        /** Takes an amount of the group, whose kept sum is given, and hands out the cents that rounding leaves. */
        private void takeByParts(int treaty, long amount, long sum) {
            if (sum <= 0) {
                return;
            }
            long cents = amount;
            for (int member = 0; member < groupSize; member++) {
                long product = keptOf[group[member]] * amount;
                remainder[member] = product % sum;
                take(treaty, group[member], product / sum);
                cents -= product / sum;
            }
            for (int cent = 0; cent < cents && cent < groupSize; cent++) {
                int member = greatestRemainder();
                take(treaty, group[member], 1L);
                remainder[member] = -1;
            }
        }

        private int greatestRemainder() {
            int greatest = 0;
            for (int member = 1; member < groupSize; member++) {
                if (remainder[member] > remainder[greatest]) {
                    greatest = member;
                }
            }
            return greatest;
        }

        long ratioOf(int treaty) {
            if (premiumTo[treaty] <= 0) {
                return 0;
            }
            return Math.min(taken[treaty] * MILLION / premiumTo[treaty], GREATEST_RATIO);
        }

        long commissionOf(int treaty) {
            long above = Math.max(ratioOf(treaty) - RATIO_OF_FULL_COMMISSION, 0L);
            long part = Math.max(GREATEST_COMMISSION - above, LEAST_COMMISSION);
            return premiumTo[treaty] * part / MILLION;
        }

        /** The reinstatement premium of the whole treaty: only what can be reinstated is paid for. */
        long reinstatementOf(int treaty) {
            long b = treaties.b[treaty];
            if (!treaties.isExcess(treaty) || b <= 0) {
                return 0;
            }
            long price = b * REINSTATEMENT_PART / MILLION;
            return price * Math.min(taken[treaty], b * treaties.c[treaty]) / b;
        }

        long owedBy(int reinsurer, int year) {
            long owed = 0;
            for (int treaty = 0; treaty < treaties.count; treaty++) {
                if (treaties.yearOf[treaty] == year) {
                    owed += treaties.partOf(taken[treaty], treaty, reinsurer);
                    owed += treaties.partOf(commissionOf(treaty), treaty, reinsurer);
                    owed -= treaties.partOf(premiumTo[treaty], treaty, reinsurer);
                    owed -= treaties.partOf(reinstatementOf(treaty), treaty, reinsurer);
                }
            }
            return owed;
        }
    }
}
