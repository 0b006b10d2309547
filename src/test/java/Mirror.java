import java.util.ArrayList;
import java.util.HashMap;
import java.util.HashSet;
import java.util.List;
import java.util.Map;
import java.util.Set;

/**
 * The document once more, in its own words and apart from the program: maps in place of
 * rows, recursion from the last month back to the first, and nothing kept that could be reckoned.
 */
final class Mirror {
    private record Place(int item, int outlet, int month) { }

    private record Goods(int cents, int grams) {
        double rate() {
            return (double) cents / (double) grams;
        }
    }

    private record Item(int group, int mean, int season) { }

    private record Contract(int wage, int lag, int trigger, boolean hasFloor, int firstMonth) { }

    private record Standing(long wage, long lastNumber, long lastMonth, long paid) { }

    private final List<Item> items = new ArrayList<>();
    private final Map<Place, Goods> quotes = new HashMap<>();
    private final Map<Place, Goods> links = new HashMap<>();
    private final Set<Place> confirmed = new HashSet<>();
    private final Map<Place, Integer> fixes = new HashMap<>();
    private long[][] told = new long[3][4];
    private long[][] adopted = new long[3][4];
    private final List<long[][]> adoptedAt = new ArrayList<>();
    private final List<Contract> contracts = new ArrayList<>();
    private final Map<Place, Double> knownPrices = new HashMap<>();
    private final Map<Place, Double> knownCorrectedPrices = new HashMap<>();
    private int now = 0;

    // ---- what is told

    int item(int group, int mean, int season) {
        place(group >= 0 && group <= 3);
        argument(mean >= 0 && mean <= 2 && season >= 1 && season <= 4095);
        state(items.size() < 12);
        items.add(new Item(group, mean, season));
        return items.size() - 1;
    }

    int quote(int item, int outlet, int cents, int grams) {
        spot(item, outlet);
        argument(cents >= 1 && cents <= 100000 && grams >= 1 && grams <= 10000);
        Place at = new Place(item, outlet, now);
        state((items.get(item).season & (1 << (now % 12))) != 0 && !quotes.containsKey(at) && now < 24);
        quotes.put(at, new Goods(cents, grams));
        return quotesOf(now);
    }

    boolean confirm(int item, int outlet) {
        spot(item, outlet);
        Place at = new Place(item, outlet, now);
        state(quotes.containsKey(at));
        return !confirmed.add(at);
    }

    void link(int item, int outlet, int cents, int grams) {
        spot(item, outlet);
        argument(cents >= 1 && cents <= 100000 && grams >= 1 && grams <= 10000);
        Place at = new Place(item, outlet, now);
        state(!links.containsKey(at) && now < 24);
        links.put(at, new Goods(cents, grams));
    }

    int spend(int household, int group, int cents) {
        place(household >= 0 && household <= 2 && group >= 0 && group <= 3);
        argument(cents >= 0 && cents <= 1000000000);
        int before = (int) told[household][group];
        told[household][group] = cents;
        return before;
    }

    long adopt() {
        adopted = new long[][] {told[0].clone(), told[1].clone(), told[2].clone()};
        return sum(told[0]) + sum(told[1]) + sum(told[2]);
    }

    int publish() {
        state(now < 24);
        adoptedAt.add(adopted);
        now++;
        return published(now - 1);
    }

    int fix(int month, int item, int outlet, int cents) {
        publishedMonth(month);
        spot(item, outlet);
        argument(cents >= 1 && cents <= 100000);
        Place at = new Place(item, outlet, month);
        state(quotes.containsKey(at));
        knownCorrectedPrices.clear();
        Integer before = fixes.put(at, cents);
        return before == null ? quotes.get(at).cents : before;
    }

    int contract(int wage, int lag, int trigger, boolean hasFloor) {
        argument(wage >= 1 && wage <= 1000000000 && lag >= 0 && lag <= 3 && trigger >= 0 && trigger <= 500);
        state(now > 0 && contracts.size() < 10);
        contracts.add(new Contract(wage, lag, trigger, hasFloor, now - 1));
        return contracts.size() - 1;
    }

    // ---- what is asked

    double price(int item, int outlet, int month) {
        spot(item, outlet);
        publishedMonth(month);
        Double price = priceAt(new Place(item, outlet, month), false);
        return price == null ? 0.0 : price;
    }

    boolean isMatched(int item, int outlet, int month) {
        spot(item, outlet);
        publishedMonth(month);
        return isMatchedAt(new Place(item, outlet, month), false);
    }

    double relative(int item, int month) {
        anItem(item);
        publishedMonth(month);
        Double relative = relativeOf(item, month, false, false);
        return relative == null ? 0.0 : relative;
    }

    double bounce(int item, int month) {
        anItem(item);
        publishedMonth(month);
        Double relative = relativeOf(item, month, false, false);
        return relative == null ? 0.0 : relative * relativeOf(item, month, false, true);
    }

    double ofGroup(int group, int month) {
        place(group >= 0 && group <= 3);
        publishedMonth(month);
        return groupRelative(group, month, false);
    }

    double share(int kind, int group, int month) {
        place(kind >= 0 && kind <= 4 && group >= 0 && group <= 3);
        publishedMonth(month);
        return shareOf(kind, group, adoptedAt.get(month));
    }

    double index(int kind, int month) {
        place(kind >= 0 && kind <= 4);
        publishedMonth(month);
        return indexOf(kind, month, false);
    }

    double corrected(int kind, int month) {
        place(kind >= 0 && kind <= 4);
        publishedMonth(month);
        return indexOf(kind, month, true);
    }

    int published(int month) {
        publishedMonth(month);
        return (int) numberOf(month, false);
    }

    float growth(int month) {
        publishedMonth(month);
        place(month >= 12);
        return (float) indexOf(0, month, false) / (float) indexOf(0, month - 12, false) - 1.0f;
    }

    double core(int month) {
        publishedMonth(month);
        List<Double> left = new ArrayList<>();
        for (int group = 0; group < 4; group++) {
            left.add(groupRelative(group, month, false));
        }
        double greatest = left.stream().mapToDouble(x -> x).max().getAsDouble();
        left.remove(left.indexOf(greatest));
        double least = left.stream().mapToDouble(x -> x).min().getAsDouble();
        left.remove(left.indexOf(least));
        return (left.get(0) + left.get(1)) / 2.0;
    }

    double direct(int month) {
        publishedMonth(month);
        double sum = 0.0;
        for (int group = 0; group < 4; group++) {
            double product = 1.0;
            for (int m = 1; m <= month; m++) {
                product = product * groupRelative(group, m, false);
            }
            sum = sum + shareOf(0, group, adoptedAt.get(month)) * product;
        }
        return 100.0 * sum;
    }

    int doubts(int month) {
        publishedMonth(month);
        return (int) quotes.keySet().stream()
                .filter(at -> at.month == month && baseAt(at, false) != null && !isMatchedAt(at, false)).count();
    }

    long ofContract(int contract, int what) {
        place(contract >= 0 && contract < contracts.size() && what >= 0 && what <= 3);
        Standing now = standing(contracts.get(contract), false);
        return new long[] {now.wage, now.lastNumber, now.lastMonth, now.paid}[what];
    }

    long owed(int contract) {
        place(contract >= 0 && contract < contracts.size());
        Contract asked = contracts.get(contract);
        return standing(asked, true).paid - standing(asked, false).paid;
    }

    int count(int what) {
        place(what >= 0 && what <= 4);
        return new int[] {items.size(), now, quotesOf(now), contracts.size(), fixes.size()}[what];
    }

    // ---- terms

    private Goods quoteAt(Place at, boolean asCorrected) {
        Goods quote = quotes.get(at);
        return asCorrected && fixes.containsKey(at) ? new Goods(fixes.get(at), quote.grams) : quote;
    }

    private Double baseAt(Place at, boolean asCorrected) {
        if (at.month == 0) {
            return null;
        }
        Place before = new Place(at.item, at.outlet, at.month - 1);
        return links.containsKey(before) ? Double.valueOf(links.get(before).rate()) : priceAt(before, asCorrected);
    }

    private boolean isMatchedAt(Place at, boolean asCorrected) {
        Goods quote = quoteAt(at, asCorrected);
        Double base = baseAt(at, asCorrected);
        double bound = confirmed.contains(at) ? 30.0 : 3.0;
        return quote != null && base != null
                && quote.rate() / base <= bound && quote.rate() / base * bound >= 1.0;
    }

    private Double relativeOf(int item, int month, boolean asCorrected, boolean exchanged) {
        List<double[]> pairs = new ArrayList<>();
        for (int outlet = 0; outlet < 4; outlet++) {
            Place at = new Place(item, outlet, month);
            if (isMatchedAt(at, asCorrected)) {
                double rate = quoteAt(at, asCorrected).rate();
                double base = baseAt(at, asCorrected);
                pairs.add(exchanged ? new double[] {base, rate} : new double[] {rate, base});
            }
        }
        if (pairs.isEmpty()) {
            return null;
        }
        double above = 0.0;
        double below = 0.0;
        for (double[] pair : pairs) {
            switch (items.get(item).mean) {
                case BasketryOffice.CARLI -> above += pair[0] / pair[1];
                case BasketryOffice.DUTOT -> {
                    above += pair[0];
                    below += pair[1];
                }
                default -> below += 1.0 / (pair[0] / pair[1]);
            }
        }
        return switch (items.get(item).mean) {
            case BasketryOffice.CARLI -> above / pairs.size();
            case BasketryOffice.DUTOT -> above / below;
            default -> pairs.size() / below;
        };
    }

    private Double priceAt(Place at, boolean asCorrected) {
        Map<Place, Double> known = asCorrected ? knownCorrectedPrices : knownPrices;
        if (!known.containsKey(at)) {
            known.put(at, reckonPrice(at, asCorrected));
        }
        return known.get(at);
    }

    private Double reckonPrice(Place at, boolean asCorrected) {
        Goods quote = quoteAt(at, asCorrected);
        Double base = baseAt(at, asCorrected);
        if (isMatchedAt(at, asCorrected) || quote != null && base == null) {
            return quote.rate();
        }
        if (base == null) {
            return null;
        }
        Double relative = relativeOf(at.item, at.month, asCorrected, false);
        return relative == null ? base : base * relative;
    }

    private double groupRelative(int group, int month, boolean asCorrected) {
        double sum = 0.0;
        int many = 0;
        for (int item = 0; item < items.size(); item++) {
            Double relative = relativeOf(item, month, asCorrected, false);
            if (items.get(item).group == group && relative != null) {
                sum += relative;
                many++;
            }
        }
        return many == 0 ? 1.0 : sum / many;
    }

    private static double shareOf(int kind, int group, long[][] spent) {
        long[] all = {0, 0, 0, 0};
        double shares = 0.0;
        int spenders = 0;
        for (long[] household : spent) {
            for (int g = 0; g < 4; g++) {
                all[g] += household[g];
            }
            if (sum(household) > 0) {
                shares += (double) household[group] / (double) sum(household);
                spenders++;
            }
        }
        if (kind == 1) {
            return spenders == 0 ? 0.25 : shares / spenders;
        }
        long[] basket = kind == 0 ? all : spent[kind - 2];
        return sum(basket) == 0 ? 0.25 : (double) basket[group] / (double) sum(basket);
    }

    private double indexOf(int kind, int month, boolean asCorrected) {
        if (month == 0) {
            return 100.0;
        }
        double step = 0.0;
        for (int group = 0; group < 4; group++) {
            step += shareOf(kind, group, adoptedAt.get(month)) * groupRelative(group, month, asCorrected);
        }
        return indexOf(kind, month - 1, asCorrected) * step;
    }

    private long numberOf(int month, boolean asCorrected) {
        double number = Math.floor(indexOf(0, month, asCorrected) * 10.0 + 0.5);
        return (long) Math.max(1.0, Math.min(2147483647.0, number));
    }

    private Standing standing(Contract told, boolean asCorrected) {
        long wage = told.wage;
        long last = numberOf(told.firstMonth, asCorrected);
        long lastMonth = told.firstMonth;
        long paid = 0;
        for (int t = told.firstMonth + 1; t < now; t++) {
            if (t - told.lag > lastMonth) {
                long n = numberOf(t - told.lag, asCorrected);
                boolean up = n * 1000 >= last * (1000 + told.trigger);
                boolean down = n * 1000 <= last * (1000 - told.trigger);
                if (up || !told.hasFloor && down) {
                    wage = Math.min(1000000000L, wage * n / last);
                    last = n;
                    lastMonth = t - told.lag;
                }
            }
            paid += wage;
        }
        return new Standing(wage, last, lastMonth, paid);
    }

    private int quotesOf(int month) {
        return (int) quotes.keySet().stream().filter(at -> at.month == month).count();
    }

    private static long sum(long[] amounts) {
        long sum = 0;
        for (long amount : amounts) {
            sum += amount;
        }
        return sum;
    }

    // ---- refusals

    private void spot(int item, int outlet) {
        anItem(item);
        place(outlet >= 0 && outlet <= 3);
    }

    private void anItem(int item) {
        place(item >= 0 && item < items.size());
    }

    private void publishedMonth(int month) {
        place(month >= 0 && month < now);
    }

    private static void place(boolean holds) {
        if (!holds) {
            throw new IndexOutOfBoundsException();
        }
    }

    private static void argument(boolean holds) {
        if (!holds) {
            throw new IllegalArgumentException();
        }
    }

    private static void state(boolean holds) {
        if (!holds) {
            throw new IllegalStateException();
        }
    }
}
