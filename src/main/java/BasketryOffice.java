import java.util.ArrayList;

/**
 * An office that collects quotes, publishes a price index month by month, and
 * keeps the wages that are tied to its numbers. The words in capitals of
 * ../shared/DOC.md are used here in small letters.
 */
public final class BasketryOffice {
    public static final int NONE = -1;
    public static final int CARLI = 0, DUTOT = 1, HARMONIC = 2;

    private static final int GROUPS = 4, OUTLETS = 4, HOUSEHOLDS = 3, KINDS = 5;
    private static final int MONTHS = 24, YEAR = 12;
    private static final int MAX_ITEMS = 12, MAX_CONTRACTS = 10;
    private static final int MAX_SEASON = 4095, MAX_CENTS = 100000, MAX_GRAMS = 10000;
    private static final int MAX_SPENT = 1000000000, MAX_WAGE = 1000000000;
    private static final int MAX_LAG = 3, MAX_TRIGGER = 500;
    private static final int MAX_NUMBER = 2147483647;

    /** The places of one month: one for each item at each outlet. */
    private static final int ROW = MAX_ITEMS * OUTLETS;
    private static final int SLOTS = MONTHS * ROW;

    private final Ledger ledger;
    private final Spendings spendings;
    private final Series asPublished;
    /** Redone from the ledger for each question that needs it: nothing in it is kept. */
    private final Series redone;
    private final int[] numbers;
    private final int[] correctedNumbers;
    private final ArrayList<Contract> contracts;
    private int now;

    public BasketryOffice() {
        ledger = new Ledger();
        spendings = new Spendings();
        asPublished = new Series(ledger, spendings);
        redone = new Series(ledger, spendings);
        numbers = new int[MONTHS];
        correctedNumbers = new int[MONTHS];
        contracts = new ArrayList<Contract>();
        now = 0;
    }

    // ---- what is told

    public int item(int group, int mean, int season)
            throws IndexOutOfBoundsException, IllegalArgumentException, IllegalStateException {
        requireGroup(group);
        requireRange(mean, CARLI, HARMONIC);
        requireRange(season, 1, MAX_SEASON);
        if (ledger.items.size() >= MAX_ITEMS) {
            throw new IllegalStateException("there are 12 items");
        }
        ledger.items.add(new Item(group, mean, season));
        return ledger.items.size() - 1;
    }

    public int quote(int item, int outlet, int cents, int grams)
            throws IndexOutOfBoundsException, IllegalArgumentException, IllegalStateException {
        requireItem(item);
        requireOutlet(outlet);
        requireRange(cents, 1, MAX_CENTS);
        requireRange(grams, 1, MAX_GRAMS);
        requireCollecting();
        if (!ledger.items.get(item).isInSeason(now)) {
            throw new IllegalStateException("the item is not in season");
        }
        int slot = slotOf(item, outlet, now);
        if (ledger.hasQuote(slot)) {
            throw new IllegalStateException("there is a quote");
        }
        ledger.putQuote(slot, cents, grams);
        return ledger.quotesOfNow;
    }

    public boolean confirm(int item, int outlet)
            throws IndexOutOfBoundsException, IllegalStateException {
        requireItem(item);
        requireOutlet(outlet);
        requireCollecting();
        int slot = slotOf(item, outlet, now);
        requireQuote(slot);
        boolean before = ledger.confirmed[slot];
        ledger.confirmed[slot] = true;
        return before;
    }

    public void link(int item, int outlet, int cents, int grams)
            throws IndexOutOfBoundsException, IllegalArgumentException, IllegalStateException {
        requireItem(item);
        requireOutlet(outlet);
        requireRange(cents, 1, MAX_CENTS);
        requireRange(grams, 1, MAX_GRAMS);
        requireCollecting();
        int slot = slotOf(item, outlet, now);
        if (ledger.hasLink(slot)) {
            throw new IllegalStateException("there is a link");
        }
        ledger.putLink(slot, cents, grams);
    }

    public int spend(int household, int group, int cents)
            throws IndexOutOfBoundsException, IllegalArgumentException {
        if (household < 0 || household >= HOUSEHOLDS) {
            throw new IndexOutOfBoundsException("no such household");
        }
        requireGroup(group);
        requireRange(cents, 0, MAX_SPENT);
        return spendings.tell(household, group, cents);
    }

    public long adopt() {
        return spendings.adoptAll();
    }

    public int publish() throws IllegalStateException {
        requireCollecting();
        spendings.settleShares(now);
        asPublished.reckon(now);
        int number = numberOf(asPublished.indexOf(0, now));
        numbers[now] = number;
        for (int k = 0; k < contracts.size(); k++) {
            contracts.get(k).pay(now, numbers);
        }
        ledger.quotesOfNow = 0;
        now++;
        return number;
    }

    public int fix(int month, int item, int outlet, int cents)
            throws IndexOutOfBoundsException, IllegalArgumentException, IllegalStateException {
        requirePublished(month);
        requireItem(item);
        requireOutlet(outlet);
        requireRange(cents, 1, MAX_CENTS);
        int slot = slotOf(item, outlet, month);
        requireQuote(slot);
        return ledger.putFix(slot, cents);
    }

    public int contract(int wage, int lag, int trigger, boolean hasFloor)
            throws IllegalArgumentException, IllegalStateException {
        requireRange(wage, 1, MAX_WAGE);
        requireRange(lag, 0, MAX_LAG);
        requireRange(trigger, 0, MAX_TRIGGER);
        if (now == 0) {
            throw new IllegalStateException("nothing is published");
        }
        if (contracts.size() >= MAX_CONTRACTS) {
            throw new IllegalStateException("there are 10 contracts");
        }
        Contract told = new Contract(wage, lag, trigger, hasFloor);
        told.begin(now - 1, numbers);
        contracts.add(told);
        return contracts.size() - 1;
    }

    // ---- what is asked

    public double price(int item, int outlet, int month) throws IndexOutOfBoundsException {
        requireItem(item);
        requireOutlet(outlet);
        requirePublished(month);
        return asPublished.prices[slotOf(item, outlet, month)];
    }

    public boolean isMatched(int item, int outlet, int month) throws IndexOutOfBoundsException {
        requireItem(item);
        requireOutlet(outlet);
        requirePublished(month);
        return asPublished.matches(slotOf(item, outlet, month));
    }

    public double relative(int item, int month) throws IndexOutOfBoundsException {
        requireItem(item);
        requirePublished(month);
        return asPublished.relativeOf(item, month);
    }

    public double bounce(int item, int month) throws IndexOutOfBoundsException {
        requireItem(item);
        requirePublished(month);
        return asPublished.relativeOf(item, month) * asPublished.exchangedRelativeOf(item, month);
    }

    public double ofGroup(int group, int month) throws IndexOutOfBoundsException {
        requireGroup(group);
        requirePublished(month);
        return asPublished.groupRelativeOf(group, month);
    }

    public double share(int kind, int group, int month) throws IndexOutOfBoundsException {
        requireKind(kind);
        requireGroup(group);
        requirePublished(month);
        return spendings.shareOf(kind, group, month);
    }

    public double index(int kind, int month) throws IndexOutOfBoundsException {
        requireKind(kind);
        requirePublished(month);
        return asPublished.indexOf(kind, month);
    }

    public double indexAnew(int kind, int month) throws IndexOutOfBoundsException {
        requireKind(kind);
        requirePublished(month);
        redone.redoThrough(month, false);
        return redone.indexOf(kind, month);
    }

    public double corrected(int kind, int month) throws IndexOutOfBoundsException {
        requireKind(kind);
        requirePublished(month);
        redone.redoThrough(month, true);
        return redone.indexOf(kind, month);
    }

    public int published(int month) throws IndexOutOfBoundsException {
        requirePublished(month);
        return numbers[month];
    }

    public float growth(int month) throws IndexOutOfBoundsException {
        requirePublished(month);
        if (month < YEAR) {
            throw new IndexOutOfBoundsException("no month is 12 months ahead of it");
        }
        float later = (float) asPublished.indexOf(0, month);
        float earlier = (float) asPublished.indexOf(0, month - YEAR);
        return later / earlier - 1.0f;
    }

    public double core(int month) throws IndexOutOfBoundsException {
        requirePublished(month);
        return asPublished.coreOf(month);
    }

    public double direct(int month) throws IndexOutOfBoundsException {
        requirePublished(month);
        return asPublished.directOf(month);
    }

    public int doubts(int month) throws IndexOutOfBoundsException {
        requirePublished(month);
        return asPublished.doubtsOf(month);
    }

    public long ofContract(int contract, int what) throws IndexOutOfBoundsException {
        requireContract(contract);
        Contract asked = contracts.get(contract);
        switch (what) {
            case 0: return asked.wage;
            case 1: return asked.lastNumber;
            case 2: return asked.lastMonth;
            case 3: return asked.paid;
            default: throw new IndexOutOfBoundsException("nothing of that kind is told of a contract");
        }
    }

    public long owed(int contract) throws IndexOutOfBoundsException {
        requireContract(contract);
        redone.redoThrough(now - 1, true);
        for (int month = 0; month < now; month++) {
            correctedNumbers[month] = numberOf(redone.indexOf(0, month));
        }
        Contract asked = contracts.get(contract);
        return asked.paidAnew(now, correctedNumbers) - asked.paid;
    }

    public int count(int what) throws IndexOutOfBoundsException {
        switch (what) {
            case 0: return ledger.items.size();
            case 1: return now;
            case 2: return ledger.quotesOfNow;
            case 3: return contracts.size();
            case 4: return ledger.fixedQuotes;
            default: throw new IndexOutOfBoundsException("nothing of that kind is counted");
        }
    }

    // ---- what the calls require

    private static void requireGroup(int group) {
        if (group < 0 || group >= GROUPS) {
            throw new IndexOutOfBoundsException("no such group");
        }
    }

    private static void requireOutlet(int outlet) {
        if (outlet < 0 || outlet >= OUTLETS) {
            throw new IndexOutOfBoundsException("no such outlet");
        }
    }

    private static void requireKind(int kind) {
        if (kind < 0 || kind >= KINDS) {
            throw new IndexOutOfBoundsException("no such kind of index");
        }
    }

    private void requireItem(int item) {
        if (item < 0 || item >= ledger.items.size()) {
            throw new IndexOutOfBoundsException("no such item");
        }
    }

    private void requireContract(int contract) {
        if (contract < 0 || contract >= contracts.size()) {
            throw new IndexOutOfBoundsException("no such contract");
        }
    }

    private void requirePublished(int month) {
        if (month < 0 || month >= now) {
            throw new IndexOutOfBoundsException("the month is not published");
        }
    }

    private static void requireRange(int value, int least, int greatest) {
        if (value < least || value > greatest) {
            throw new IllegalArgumentException("an argument is out of range");
        }
    }

    /** With 24 months published now has no place in the rows any more. */
    private void requireCollecting() {
        if (now >= MONTHS) {
            throw new IllegalStateException("24 months are published");
        }
    }

    private void requireQuote(int slot) {
        if (!ledger.hasQuote(slot)) {
            throw new IllegalStateException("there is no quote");
        }
    }

    private static int slotOf(int item, int outlet, int month) {
        return month * ROW + item * OUTLETS + outlet;
    }

    private static int numberOf(double index) {
        double number = index * 10.0 + 0.5;
        if (number >= (double) MAX_NUMBER) {
            return MAX_NUMBER;
        }
        return number < 1.0 ? 1 : (int) number;
    }

    private static final class Item {
        private final int group;
        private final int mean;
        private final int season;

        Item(int group, int mean, int season) {
            this.group = group;
            this.mean = mean;
            this.season = season;
        }

        boolean isInSeason(int month) {
            return ((season >> (month % YEAR)) & 1) == 1;
        }
    }

    /** All that was told of the items, by slots; 0 cents stand where nothing was told. */
    private static final class Ledger {
        private final ArrayList<Item> items = new ArrayList<Item>();
        private final int[] cents = new int[SLOTS];
        private final int[] grams = new int[SLOTS];
        private final boolean[] confirmed = new boolean[SLOTS];
        /** The cents as told, until a fix gives others. */
        private final int[] correctedCents = new int[SLOTS];
        /** Apart from the cents: a fix to the same cents is a fix too. */
        private final boolean[] fixed = new boolean[SLOTS];
        private final int[] linkCents = new int[SLOTS];
        private final int[] linkGrams = new int[SLOTS];
        private int quotesOfNow;
        private int fixedQuotes;

        boolean hasQuote(int slot) {
            return cents[slot] > 0;
        }

        boolean hasLink(int slot) {
            return linkCents[slot] > 0;
        }

        void putQuote(int slot, int toldCents, int toldGrams) {
            cents[slot] = toldCents;
            correctedCents[slot] = toldCents;
            grams[slot] = toldGrams;
            quotesOfNow++;
        }

        void putLink(int slot, int toldCents, int toldGrams) {
            linkCents[slot] = toldCents;
            linkGrams[slot] = toldGrams;
        }

        int putFix(int slot, int newCents) {
            int before = correctedCents[slot];
            if (!fixed[slot]) {
                fixedQuotes++;
            }
            fixed[slot] = true;
            correctedCents[slot] = newCents;
            return before;
        }

        /** 0.0 without a quote: no rate is so low. */
        double rateOf(int slot, boolean withFixes) {
            if (grams[slot] < 1) {
                return 0.0;
            }
            int counted = withFixes ? correctedCents[slot] : cents[slot];
            return (double) counted / (double) grams[slot];
        }

        /** 0.0 without a link. */
        double linkRateOf(int slot) {
            if (linkGrams[slot] < 1) {
                return 0.0;
            }
            return (double) linkCents[slot] / (double) linkGrams[slot];
        }
    }

    /** What the households spend, and the shares of the months that come of it. */
    private static final class Spendings {
        private final int[] told = new int[HOUSEHOLDS * GROUPS];
        private final int[] adopted = new int[HOUSEHOLDS * GROUPS];
        private final double[] shares = new double[MONTHS * KINDS * GROUPS];

        int tell(int household, int group, int cents) {
            int place = household * GROUPS + group;
            int before = told[place];
            told[place] = cents;
            return before;
        }

        long adoptAll() {
            long all = 0;
            for (int place = 0; place < HOUSEHOLDS * GROUPS; place++) {
                adopted[place] = told[place];
                all += told[place];
            }
            return all;
        }

        double shareOf(int kind, int group, int month) {
            return shares[(month * KINDS + kind) * GROUPS + group];
        }

        /** Kept for good: what is adopted later must not reach a month that is published. */
        void settleShares(int month) {
            for (int group = 0; group < GROUPS; group++) {
                int place = month * KINDS * GROUPS + group;
                shares[place] = shareOfAll(group);
                shares[place + GROUPS] = meanShare(group);
                for (int household = 0; household < HOUSEHOLDS; household++) {
                    shares[place + (2 + household) * GROUPS] = shareOfHousehold(household, group);
                }
            }
        }

        private double shareOfAll(int group) {
            long onGroup = 0;
            long all = 0;
            for (int household = 0; household < HOUSEHOLDS; household++) {
                onGroup += adopted[household * GROUPS + group];
                all += spentBy(household);
            }
            return all > 0 ? (double) onGroup / (double) all : 0.25;
        }

        private double meanShare(int group) {
            double sum = 0.0;
            int spenders = 0;
            for (int household = 0; household < HOUSEHOLDS; household++) {
                if (spentBy(household) > 0) {
                    sum += shareOfHousehold(household, group);
                    spenders++;
                }
            }
            return spenders > 0 ? sum / (double) spenders : 0.25;
        }

        private double shareOfHousehold(int household, int group) {
            long all = spentBy(household);
            int onGroup = adopted[household * GROUPS + group];
            return all > 0 ? (double) onGroup / (double) all : 0.25;
        }

        private long spentBy(int household) {
            long all = 0;
            for (int group = 0; group < GROUPS; group++) {
                all += adopted[household * GROUPS + group];
            }
            return all;
        }
    }

    /** The sums that any of the three means is made of. */
    private static final class Sums {
        private int outlets;
        private double rates;
        private double bases;
        private double quotients;
        private double inverses;

        void clear() {
            outlets = 0;
            rates = 0.0;
            bases = 0.0;
            quotients = 0.0;
            inverses = 0.0;
        }

        /** Rate and base are above 0.0. */
        void add(double rate, double base) {
            outlets++;
            rates += rate;
            bases += base;
            quotients += rate / base;
            inverses += 1.0 / (rate / base);
        }

        /** 0.0 without outlets: no relative is so low. */
        double relativeBy(int mean) {
            if (outlets < 1) {
                return 0.0;
            }
            if (mean == CARLI) {
                return quotients / (double) outlets;
            }
            return mean == DUTOT ? rates / bases : (double) outlets / inverses;
        }
    }

    /** Prices, relatives and indices, reckoned month after month from what was told. */
    private static final class Series {
        private final Ledger ledger;
        private final Spendings spendings;
        private final Sums sums = new Sums();
        /** 0.0 stands for no price. */
        private final double[] prices = new double[SLOTS];
        /** 0.0 stands for no relative. */
        private final double[] relatives = new double[MONTHS * MAX_ITEMS];
        private final double[] groupRelatives = new double[MONTHS * GROUPS];
        private final double[] indices = new double[MONTHS * KINDS];
        private boolean withFixes;

        Series(Ledger ledger, Spendings spendings) {
            this.ledger = ledger;
            this.spendings = spendings;
        }

        double relativeOf(int item, int month) {
            return relatives[month * MAX_ITEMS + item];
        }

        double groupRelativeOf(int group, int month) {
            return groupRelatives[month * GROUPS + group];
        }

        double indexOf(int kind, int month) {
            return indices[month * KINDS + kind];
        }

        void redoThrough(int lastMonth, boolean countFixes) {
            withFixes = countFixes;
            for (int month = 0; month <= lastMonth; month++) {
                reckon(month);
            }
        }

        /** The months before this one must have been reckoned. */
        void reckon(int month) {
            for (int item = 0; item < ledger.items.size(); item++) {
                reckonItem(item, month);
            }
            for (int group = 0; group < GROUPS; group++) {
                groupRelatives[month * GROUPS + group] = reckonedGroupRelative(group, month);
            }
            for (int kind = 0; kind < KINDS; kind++) {
                indices[month * KINDS + kind] =
                        month < 1 ? 100.0 : indexOf(kind, month - 1) * stepOf(kind, month);
            }
        }

        private void reckonItem(int item, int month) {
            double relative = reckonedRelative(item, month, false);
            relatives[month * MAX_ITEMS + item] = relative;
            int first = slotOf(item, 0, month);
            for (int slot = first; slot < first + OUTLETS; slot++) {
                prices[slot] = reckonedPrice(slot, relative);
            }
        }

        private double reckonedRelative(int item, int month, boolean exchanged) {
            int first = slotOf(item, 0, month);
            sums.clear();
            for (int slot = first; slot < first + OUTLETS; slot++) {
                double rate = rateOf(slot);
                double base = baseOf(slot);
                if (isWithinBound(slot, rate, base)) {
                    sums.add(exchanged ? base : rate, exchanged ? rate : base);
                }
            }
            return sums.relativeBy(ledger.items.get(item).mean);
        }

        private double reckonedPrice(int slot, double relative) {
            double rate = rateOf(slot);
            double base = baseOf(slot);
            if (base <= 0.0 || isWithinBound(slot, rate, base)) {
                return rate;
            }
            return relative > 0.0 ? base * relative : base;
        }

        private double rateOf(int slot) {
            return ledger.rateOf(slot, withFixes);
        }

        /** 0.0 without a base. */
        private double baseOf(int slot) {
            int before = slot - ROW;
            if (before < 0) {
                return 0.0;
            }
            return ledger.hasLink(before) ? ledger.linkRateOf(before) : prices[before];
        }

        boolean matches(int slot) {
            return isWithinBound(slot, rateOf(slot), baseOf(slot));
        }

        private boolean isWithinBound(int slot, double rate, double base) {
            if (rate <= 0.0 || base <= 0.0) {
                return false;
            }
            double bound = ledger.confirmed[slot] ? 30.0 : 3.0;
            double quotient = rate / base;
            return quotient <= bound && quotient * bound >= 1.0;
        }

        double exchangedRelativeOf(int item, int month) {
            return reckonedRelative(item, month, true);
        }

        private double reckonedGroupRelative(int group, int month) {
            double sum = 0.0;
            int items = 0;
            for (int item = 0; item < ledger.items.size(); item++) {
                double relative = relativeOf(item, month);
                if (ledger.items.get(item).group == group && relative > 0.0) {
                    sum += relative;
                    items++;
                }
            }
            return items > 0 ? sum / (double) items : 1.0;
        }

        private double stepOf(int kind, int month) {
            double step = 0.0;
            for (int group = 0; group < GROUPS; group++) {
                step += spendings.shareOf(kind, group, month) * groupRelativeOf(group, month);
            }
            return step;
        }

        double coreOf(int month) {
            int greatest = 0;
            for (int group = 1; group < GROUPS; group++) {
                if (groupRelativeOf(group, month) > groupRelativeOf(greatest, month)) {
                    greatest = group;
                }
            }
            int least = greatest == 0 ? 1 : 0;
            for (int group = least + 1; group < GROUPS; group++) {
                if (group != greatest
                        && groupRelativeOf(group, month) < groupRelativeOf(least, month)) {
                    least = group;
                }
            }
            double sum = 0.0;
            for (int group = 0; group < GROUPS; group++) {
                if (group != greatest && group != least) {
                    sum += groupRelativeOf(group, month);
                }
            }
            return sum / 2.0;
        }

        double directOf(int month) {
            double sum = 0.0;
            for (int group = 0; group < GROUPS; group++) {
                double product = 1.0;
                for (int passed = 1; passed <= month; passed++) {
                    product *= groupRelativeOf(group, passed);
                }
                sum += spendings.shareOf(0, group, month) * product;
            }
            return 100.0 * sum;
        }

        int doubtsOf(int month) {
            int doubts = 0;
            for (int slot = month * ROW; slot < (month + 1) * ROW; slot++) {
                if (ledger.hasQuote(slot) && baseOf(slot) > 0.0 && !matches(slot)) {
                    doubts++;
                }
            }
            return doubts;
        }
    }

    /** A wage that follows the numbers by its clause. */
    private static final class Contract {
        private final int firstWage;
        private final int lag;
        private final int trigger;
        private final boolean hasFloor;
        private int firstMonth;
        private long wage;
        private long lastNumber;
        private int lastMonth;
        private long paid;

        Contract(int firstWage, int lag, int trigger, boolean hasFloor) {
            this.firstWage = firstWage;
            this.lag = lag;
            this.trigger = trigger;
            this.hasFloor = hasFloor;
        }

        void begin(int month, int[] numbers) {
            firstMonth = month;
            wage = firstWage;
            lastNumber = numbers[month];
            lastMonth = month;
            paid = 0;
        }

        void pay(int month, int[] numbers) {
            int looked = month - lag;
            if (looked > lastMonth && isTriggeredBy(numbers[looked])) {
                wage = Math.min(wage * numbers[looked] / lastNumber, (long) MAX_WAGE);
                lastNumber = numbers[looked];
                lastMonth = looked;
            }
            paid += wage;
        }

        /** Never with a last number that nothing could be divided by. */
        private boolean isTriggeredBy(long number) {
            if (lastNumber < 1) {
                return false;
            }
            return number * 1000 >= lastNumber * (1000 + trigger)
                    || !hasFloor && number * 1000 <= lastNumber * (1000 - trigger);
        }

        /** What would have been paid in the months below the end, had these been the numbers. */
        long paidAnew(int end, int[] otherNumbers) {
            Contract anew = new Contract(firstWage, lag, trigger, hasFloor);
            anew.begin(firstMonth, otherNumbers);
            for (int month = firstMonth + 1; month < end; month++) {
                anew.pay(month, otherNumbers);
            }
            return anew.paid;
        }
    }
}
