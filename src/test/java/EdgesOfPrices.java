import java.util.ArrayList;
import java.util.List;

/** The edges that the Terms name, from the items and quotes to the relatives of groups. */
final class EdgesOfPrices {
    private static final int CARLI = BasketryOffice.CARLI;
    private static final int DUTOT = BasketryOffice.DUTOT;
    private static final int HARMONIC = BasketryOffice.HARMONIC;
    private static final int ALWAYS = 4095;
    private static final String LET = "nothing thrown";
    private static final String PLACE = "IndexOutOfBoundsException";
    private static final String STATE = "IllegalStateException";

    private EdgesOfPrices() { }

    static void all() {
        askingChangesNothing();
        constants();
        orderOfSums();
        wholeNumbers();
        groupsOutletsHouseholds();
        months();
        itemsAndSeasons();
        rates();
        quoteOnce();
        linkOnce();
        priceInMonth0();
        base();
        matched();
        matchedInDoubles();
        relativeOfItem();
        priceLater();
        relativeOfGroup();
        refusals();
    }

    private static Edge edge(String sentence) {
        return new Edge(Doc.TERMS, sentence);
    }

    private static BasketryOffice item(int mean) {
        BasketryOffice x = new BasketryOffice();
        x.item(0, mean, ALWAYS);
        return x;
    }

    /** Confirmed quotes of 100 grams, of the item 0, at the outlets from 0 on; 0 cents are not told. */
    private static void publish(BasketryOffice x, int... cents) {
        for (int outlet = 0; outlet < cents.length; outlet++) {
            if (cents[outlet] > 0) {
                x.quote(0, outlet, cents[outlet], 100);
                x.confirm(0, outlet);
            }
        }
        x.publish();
    }

    // ---- asking, constants, reckoning

    private static void askingChangesNothing() {
        Edge edge = edge("all else is asked, which changes nothing");
        edge.leaves(Scene.EMPTY, "all questions", Story::ofQuestions);
        edge.leaves(Scene.ORDINARY, "all questions", Story::ofQuestions);
        edge.leaves(Scene.FULL, "some questions", x -> {
            x.corrected(4, 23);
            x.indexAnew(4, 22);
            x.owed(9);
            x.owed(0);
            x.bounce(11, 23);
        });
    }

    private static void constants() {
        edge("`NONE = -1`: There is none.").due("NONE", BasketryOffice.NONE, -1);
        Edge means = edge("`CARLI = 0, DUTOT = 1, HARMONIC = 2`: Means.");
        means.due("CARLI", BasketryOffice.CARLI, 0);
        means.due("DUTOT", BasketryOffice.DUTOT, 1);
        means.due("HARMONIC", BasketryOffice.HARMONIC, 2);
    }

    /** 0.1, 0.2 and 0.3: by falling numbers, or in pairs, they make another sum. */
    private static void orderOfSums() {
        Edge edge = edge("a sum begins with 0.0 and goes by rising numbers");
        double rising = 0.0 + 0.1 + 0.2 + 0.3;
        edge.due("the order tells", rising == 0.0 + 0.3 + 0.2 + 0.1, false);
        BasketryOffice carli = item(CARLI);
        publish(carli, 100, 100, 100);
        publish(carli, 10, 20, 30);
        edge.due("over outlets, Carli", carli.relative(0, 1), rising / 3.0);
        BasketryOffice dutot = item(DUTOT);
        publish(dutot, 10, 20, 30);
        publish(dutot, 10, 20, 30);
        publish(dutot, 20, 20, 20);
        edge.due("over outlets, Dutot, rates", dutot.relative(0, 1), rising / rising);
        edge.due("over outlets, Dutot, bases", dutot.relative(0, 2), (0.0 + 0.2 + 0.2 + 0.2) / rising);
        BasketryOffice harmonic = item(HARMONIC);
        publish(harmonic, 10, 20, 30);
        publish(harmonic, 100, 100, 100);
        edge.due("over outlets, Harmonic", harmonic.relative(0, 1), 3.0 / rising);
        orderOfItemsAndMonths();
    }

    private static void orderOfItemsAndMonths() {
        Edge edge = edge("each operation by itself, in just the order that is told");
        BasketryOffice x = new BasketryOffice();
        for (int item = 0; item < 3; item++) {
            x.item(2, item, ALWAYS);
            x.quote(item, 0, 100, 100);
        }
        x.publish();
        for (int item = 0; item < 3; item++) {
            x.quote(item, 0, 10 * (item + 1), 100);
            x.confirm(item, 0);
        }
        x.publish();
        double ofHarmonic = 1.0 / (0.0 + 1.0 / 0.3);
        edge.due("over the items of a group", x.ofGroup(2, 1), (0.0 + 0.1 + 0.2 + ofHarmonic) / 3.0);
        Edge product = edge("a product of several begins with 1.0 likewise");
        BasketryOffice y = item(CARLI);
        y.spend(0, 0, 1);
        y.adopt();
        publish(y, 100);
        for (int cents : new int[] {10, 20, 30}) {
            y.link(0, 1, 100, 100);
            y.publish();
            y.quote(0, 1, cents, 100);
            y.confirm(0, 1);
        }
        y.publish();
        product.due("by rising months", y.direct(4), 100.0 * (1.0 * 0.1 * 0.2 * 0.3));
        product.due("the order tells", 1.0 * 0.1 * 0.2 * 0.3 == 1.0 * 0.3 * 0.2 * 0.1, false);
    }

    private static void wholeNumbers() {
        Edge edge = edge("Whole numbers become doubles ahead of that.");
        BasketryOffice x = item(CARLI);
        x.quote(0, 0, 1, 3);
        x.spend(0, 0, 1);
        x.spend(0, 1, 2);
        x.adopt();
        x.publish();
        edge.due("cents and grams", x.price(0, 0, 0), 1.0 / 3.0);
        edge.due("spendings", x.share(0, 0, 0), 1.0 / 3.0);
        for (int group = 0; group < 4; group++) {
            x.spend(1, group, 1000000000);
        }
        x.adopt();
        x.publish();
        edge.due("more than an int holds", x.share(0, 1, 1), 1000000002.0 / 4000000003.0);
    }

    // ---- items, quotes, links

    private static void groupsOutletsHouseholds() {
        Edge edge = edge("There are the GROUPS 0 to 3, the OUTLETS 0 to 3, and the HOUSEHOLDS 0 to 2.");
        BasketryOffice x = new BasketryOffice();
        for (int group = 0; group < 4; group++) {
            x.item(group, CARLI, ALWAYS);
            for (int outlet = 0; outlet < 4; outlet++) {
                x.quote(group, outlet, 100 * (group + 1) + outlet, 100);
            }
        }
        for (int place = 0; place < 12; place++) {
            edge.due("nothing told there", x.spend(place % 3, place / 3, place + 1), 0);
        }
        x.adopt();
        x.publish();
        for (int place = 0; place < 16; place++) {
            edge.due("its own price", x.price(place / 4, place % 4, 0), (100.0 * (place / 4 + 1) + place % 4) / 100.0);
        }
        for (int place = 0; place < 12; place++) {
            int all = 4 * (place % 3 + 1) + 3 + 6 + 9;
            edge.due("its own share", x.share(2 + place % 3, place / 3, 0), (place + 1.0) / all);
        }
    }

    private static void months() {
        Edge edge = edge("NOW is the one that is collected, 0 at first; at most the months 0 to 23 are published");
        BasketryOffice x = item(CARLI);
        for (int month = 0; month < 24; month++) {
            int asked = month;
            edge.due("ahead of its publishing, " + month, Check.outcome(() -> x.published(asked)), PLACE);
            edge.due("one quote of now, " + month, x.quote(0, 0, 100 + month, 100), 1);
            x.publish();
            edge.due("the month " + month, x.price(0, 0, month), (100.0 + month) / 100.0);
            edge.due("so many are published", x.count(1), month + 1);
        }
        edge.due("the month 24", Check.outcome(x::publish), STATE);
        edge.due("it is not published", Check.outcome(() -> x.published(24)), PLACE);
        edge.due("24 are", x.count(1), 24);
    }

    private static void itemsAndSeasons() {
        Edge edge = edge(
                "ITEMS are numbered from 0, at most 12: each in a GROUP, with a mean, CARLI, DUTOT or HARMONIC, and a season");
        BasketryOffice x = new BasketryOffice();
        for (int number = 0; number < 12; number++) {
            edge.due("its number", x.item(number / 3, number % 3, ALWAYS), number);
            x.quote(number, 0, 100, 100);
            x.quote(number, 3, 200, 100);
        }
        edge.due("no number 12", Check.outcome(() -> x.item(0, CARLI, ALWAYS)), STATE);
        x.publish();
        for (int number = 0; number < 12; number++) {
            x.quote(number, 0, 150, 100);
            x.quote(number, 3, 200, 100);
        }
        x.publish();
        double[] byMean = {(1.5 + 1.0) / 2.0, (1.5 + 2.0) / (1.0 + 2.0), 2.0 / (1.0 / 1.5 + 1.0 / 1.0)};
        for (int number = 0; number < 12; number++) {
            edge.due("by its own mean", x.relative(number, 1), byMean[number % 3]);
        }
        for (int group = 0; group < 4; group++) {
            edge.due("in its own group", x.ofGroup(group, 1), (0.0 + byMean[0] + byMean[1] + byMean[2]) / 3.0);
        }
        Edge season = edge("the set of the remainders by 12 of the months in which it is in season");
        for (int remainder = 0; remainder < 12; remainder++) {
            BasketryOffice seasonal = new BasketryOffice();
            seasonal.item(0, CARLI, 1 << remainder);
            for (int month = 0; month < 24; month++) {
                season.due("remainder " + remainder + ", month " + month, Check.outcome(() -> seasonal.quote(0, 0, 1, 1)),
                        month == remainder || month == remainder + 12 ? LET : STATE);
                seasonal.publish();
            }
        }
    }

    private static void rates() {
        Edge edge = edge("its rate is the cents divided by the grams");
        int[][] quotes = {{1, 1}, {1, 10000}, {100000, 1}, {100000, 10000}, {99999, 9999}, {2, 3}};
        for (int[] quote : quotes) {
            BasketryOffice x = item(CARLI);
            x.quote(0, 0, quote[0], quote[1]);
            x.publish();
            edge.due(quote[0] + " cents, " + quote[1] + " grams", x.price(0, 0, 0), (double) quote[0] / (double) quote[1]);
        }
    }

    private static void quoteOnce() {
        Edge edge = edge(
                "It is told in that month, once, and only if the ITEM is in season; it may be confirmed in that month.");
        BasketryOffice x = new BasketryOffice();
        x.item(0, CARLI, 1 | 2);
        edge.due("not confirmed ahead of it", Check.outcome(() -> x.confirm(0, 0)), STATE);
        edge.due("told", x.quote(0, 0, 100, 100), 1);
        edge.due("not once more", Check.outcome(() -> x.quote(0, 0, 100, 100)), STATE);
        edge.due("confirmed", x.confirm(0, 0), false);
        edge.due("nor once it is confirmed", Check.outcome(() -> x.quote(0, 0, 100, 100)), STATE);
        x.publish();
        edge.due("not confirmed in the month after it", Check.outcome(() -> x.confirm(0, 0)), STATE);
        edge.due("told in the month after it", x.quote(0, 0, 2999, 100), 1);
        x.publish();
        edge.due("confirmed in its own month alone", x.isMatched(0, 0, 1), false);
        edge.due("out of season", Check.outcome(() -> x.quote(0, 0, 100, 100)), STATE);
    }

    private static void linkOnce() {
        Edge edge = edge("A LINK, too, is told once for an ITEM and an OUTLET in a month, in season or not: "
                + "it is of the product that is looked at from the next month on, and has a rate likewise.");
        BasketryOffice x = new BasketryOffice();
        x.item(0, CARLI, 2);
        edge.due("out of season", Check.outcome(() -> x.link(0, 0, 1, 3)), LET);
        edge.due("once", Check.outcome(() -> x.link(0, 0, 1, 3)), STATE);
        edge.due("at another outlet", Check.outcome(() -> x.link(0, 1, 100000, 10000)), LET);
        x.publish();
        edge.due("in season", Check.outcome(() -> x.link(0, 0, 7, 1)), LET);
        edge.due("no price in its month", x.price(0, 0, 0), 0.0);
        x.publish();
        edge.due("the rate, from the next month on", x.price(0, 0, 1), 1.0 / 3.0);
        edge.due("the rate at another outlet", x.price(0, 1, 1), 10.0);
        x.publish();
        edge.due("a later one in its place", x.price(0, 0, 2), 7.0);
        edge.due("none in its place", x.price(0, 1, 2), 10.0);
        BasketryOffice last = Scene.NEARLY_FULL.make();
        double before = Scene.FULL.make().price(10, 1, 23);
        edge.due("in the month 23", Check.outcome(() -> last.link(0, 0, 1, 1)), LET);
        last.publish();
        edge.due("too late to be looked at", last.price(10, 1, 23), before);
    }

    // ---- prices and relatives

    private static void priceInMonth0() {
        Edge edge = edge("in the month 0 is the rate of its QUOTE; without one there is none");
        BasketryOffice x = item(CARLI);
        x.quote(0, 1, 1, 7);
        x.link(0, 2, 1, 1);
        x.publish();
        edge.due("a quote", x.price(0, 1, 0), 1.0 / 7.0);
        edge.due("nothing", x.price(0, 0, 0), 0.0);
        edge.due("a link alone", x.price(0, 2, 0), 0.0);
        edge.due("nothing at the last outlet", x.price(0, 3, 0), 0.0);
    }

    private static void base() {
        Edge edge = edge("is the rate of the LINK of the month before, if there is one, "
                + "otherwise the PRICE of the month before, if there is one");
        BasketryOffice x = item(DUTOT);
        x.quote(0, 0, 100, 100);
        x.quote(0, 1, 100, 100);
        x.link(0, 0, 250, 100);
        x.link(0, 2, 100, 100);
        x.publish();
        publish(x, 300, 150, 120);
        edge.due("a link and a price, a price, a link", x.relative(0, 1), (3.0 + 1.5 + 1.2) / (2.5 + 1.0 + 1.0));
        publish(x, 300);
        edge.due("the link of two months before is none", x.relative(0, 2), 3.0 / 3.0);
        publish(x, 0, 0, 0, 500);
        edge.due("neither", x.isMatched(0, 3, 3), false);
        publish(x, 0, 0, 0, 600);
        edge.due("a price by then", x.relative(0, 4), 6.0 / 5.0);
        BasketryOffice full = Scene.NEARLY_FULL.make();
        full.publish();
        edge.due("the price that was carried on through 22 months", full.isMatched(10, 2, 23), true);
    }

    private static boolean isMatchedBy(boolean isConfirmed, int cents, int grams, int baseCents, int baseGrams) {
        BasketryOffice x = item(CARLI);
        x.quote(0, 0, baseCents, baseGrams);
        x.publish();
        x.quote(0, 0, cents, grams);
        if (isConfirmed) {
            x.confirm(0, 0);
        }
        x.publish();
        int doubts = x.isMatched(0, 0, 1) ? 0 : 1;
        if (x.doubts(1) != doubts) {
            throw new IllegalStateException("a quote with a base is matched, or in doubt");
        }
        return x.isMatched(0, 0, 1);
    }

    private static void matched() {
        Edge edge = edge("the BOUND is 30.0 if the QUOTE is confirmed, otherwise 3.0");
        int[] bounds = {3, 30};
        for (int bound : bounds) {
            boolean isConfirmed = bound == 30;
            String of = " of " + bound;
            edge.due("just the bound" + of, isMatchedBy(isConfirmed, 100 * bound, 100, 100, 100), true);
            edge.due("a cent more" + of, isMatchedBy(isConfirmed, 100 * bound + 1, 100, 100, 100), false);
            edge.due("a cent less" + of, isMatchedBy(isConfirmed, 100 * bound - 1, 100, 100, 100), true);
            edge.due("just one by the bound" + of, isMatchedBy(isConfirmed, 100, 100, 100 * bound, 100), true);
            edge.due("from a cent more" + of, isMatchedBy(isConfirmed, 100, 100, 100 * bound + 1, 100), false);
            edge.due("from a cent less" + of, isMatchedBy(isConfirmed, 100, 100, 100 * bound - 1, 100), true);
            edge.due("a gram less" + of, isMatchedBy(isConfirmed, 100 * bound, 9999, 100, 10000), false);
            edge.due("a gram more" + of, isMatchedBy(isConfirmed, 100 * bound, 10000, 100, 9999), true);
            edge.due("the farthest up" + of, isMatchedBy(isConfirmed, 100000, 1, 1, 10000), false);
            edge.due("the farthest down" + of, isMatchedBy(isConfirmed, 1, 10000, 100000, 1), false);
            edge.due("the same" + of, isMatchedBy(isConfirmed, 1, 10000, 1, 10000), true);
        }
        edge.due("30 times, not confirmed", isMatchedBy(false, 3000, 100, 100, 100), false);
        Edge quoted = edge("if it has a QUOTE in that month and a BASE");
        BasketryOffice x = item(CARLI);
        publish(x, 100);
        publish(x, 0, 100);
        quoted.due("a base and no quote", x.isMatched(0, 0, 1), false);
        quoted.due("a quote and no base", x.isMatched(0, 1, 1), false);
        quoted.due("neither", x.isMatched(0, 3, 1), false);
        quoted.due("no doubt either", x.doubts(1), 0);
    }

    /** Where doubles fall beyond the bound, though the cents do not. */
    private static void matchedInDoubles() {
        Edge edge = edge(
                "the rate divided by the BASE is at most the BOUND, and that quotient times the BOUND is at least 1.0");
        edge.due("2.1 is more than 3.0 times 0.7", 2.1 / 0.7 > 3.0, true);
        edge.due("2.1 from 0.7", isMatchedBy(false, 210, 100, 70, 100), false);
        edge.due("0.3 from 0.1, a bit less", isMatchedBy(false, 30, 100, 10, 100), true);
        edge.due("8.2 is less than a third of 24.6", 8.2 / 24.6 * 3.0 < 1.0, true);
        edge.due("8.2 from 24.6", isMatchedBy(false, 41, 5, 123, 5), false);
        edge.due("0.9 is more than 30.0 times 0.03", 0.9 / 0.03 > 30.0, true);
        edge.due("0.9 from 0.03, confirmed", isMatchedBy(true, 90, 100, 3, 100), false);
        edge.due("0.57 is less than a thirtieth of 17.1", 0.57 / 17.1 * 30.0 < 1.0, true);
        edge.due("0.57 from 17.1, confirmed", isMatchedBy(true, 57, 100, 1710, 100), false);
    }

    private static void relativeOfItem() {
        Edge edge = edge("An ITEM that has MATCHED OUTLETS has a RELATIVE, by its mean");
        double[] all = {(0.0 + 1.1 + 1.2 + 1.3 + 1.4) / 4.0, (0.0 + 1.1 + 1.2 + 1.3 + 1.4) / 4.0,
            4.0 / (0.0 + 1.0 / 1.1 + 1.0 / 1.2 + 1.0 / 1.3 + 1.0 / 1.4)};
        double[] one = {2.5, 2.5, 1.0 / (0.0 + 1.0 / 2.5)};
        for (int mean = CARLI; mean <= HARMONIC; mean++) {
            BasketryOffice x = item(mean);
            publish(x, 100, 100, 100, 100);
            publish(x, 110, 120, 130, 140);
            edge.due("all outlets, mean " + mean, x.relative(0, 1), all[mean]);
            x.link(0, 3, 200, 100);
            x.publish();
            edge.due("no outlet, mean " + mean, x.relative(0, 2), 0.0);
            x.link(0, 3, 200, 100);
            x.publish();
            publish(x, 100000, 0, 0, 500);
            edge.due("the last outlet alone, mean " + mean, x.relative(0, 4), one[mean]);
            publish(x, 100000, 100000);
            edge.due("quotes, but none matched, mean " + mean, x.relative(0, 5), 0.0);
        }
    }

    private static void priceLater() {
        Edge edge = edge("is the rate of the QUOTE, if the OUTLET is MATCHED, or has a QUOTE and no BASE; otherwise, "
                + "if it has a BASE, that times the RELATIVE, or the BASE alone, if the ITEM has no RELATIVE; otherwise there is none");
        BasketryOffice x = item(CARLI);
        x.quote(0, 0, 100, 100);
        x.quote(0, 1, 100, 100);
        x.publish();
        x.quote(0, 1, 301, 100);
        x.quote(0, 2, 700, 100);
        x.publish();
        edge.due("a base, no quote, no relative", x.price(0, 0, 1), 1.0);
        edge.due("a base, a quote that is not matched, no relative", x.price(0, 1, 1), 1.0);
        edge.due("a quote and no base", x.price(0, 2, 1), 7.0);
        edge.due("neither", x.price(0, 3, 1), 0.0);
        x.quote(0, 0, 150, 100);
        x.quote(0, 1, 301, 100);
        x.publish();
        edge.due("matched", x.price(0, 0, 2), 1.5);
        edge.due("a base, a quote that is not matched, a relative", x.price(0, 1, 2), 1.0 * 1.5);
        edge.due("a base, no quote, a relative", x.price(0, 2, 2), 7.0 * 1.5);
        edge.due("neither still", x.price(0, 3, 2), 0.0);
        publish(x, 5);
        edge.due("a base, no quote, a thirtieth", x.price(0, 2, 3), 7.0 * 1.5 * (0.05 / 1.5));
        edge("the ITEM being in season or not").due("out of season", outOfSeason(), 2.0);
    }

    private static double outOfSeason() {
        BasketryOffice x = new BasketryOffice();
        x.item(0, CARLI, 1);
        x.quote(0, 3, 200, 100);
        for (int month = 0; month < 12; month++) {
            x.publish();
        }
        return x.price(0, 3, 11);
    }

    private static void relativeOfGroup() {
        Edge edge = edge(
                "the sum of the RELATIVES of its ITEMS that have one, divided by how many they are; 1.0 if none has");
        BasketryOffice x = new BasketryOffice();
        double sum = 0.0;
        for (int item = 0; item < 12; item++) {
            x.item(1, CARLI, ALWAYS);
            x.quote(item, 3, 100, 100);
        }
        x.publish();
        for (int item = 0; item < 12; item++) {
            x.quote(item, 3, 110 + item, 100);
            sum += (110.0 + item) / 100.0;
        }
        x.publish();
        x.quote(11, 3, 242, 100);
        x.publish();
        x.publish();
        edge.due("all items in one group", x.ofGroup(1, 1), sum / 12.0);
        edge.due("no item in the group", x.ofGroup(0, 1), 1.0);
        edge.due("one that has one", x.ofGroup(1, 2), 2.42 / 1.21);
        edge.due("none that has one", x.ofGroup(1, 3), 1.0);
    }

    // ---- refusals

    /** For each call that names several exceptions, one that all of them apply to. */
    private static void refusals() {
        Edge nothing = edge("A call that throws an exception changes nothing.");
        Edge first = edge("If several apply, the one that the throws clause names first is thrown.");
        List<Scene> scenes = new ArrayList<>(List.of(Scene.values()));
        for (Scene scene : scenes) {
            first.refuses(scene, Edge.PLACE, "item", x -> x.item(4, 3, 0));
            first.refuses(scene, Edge.PLACE, "quote", x -> x.quote(12, 4, 0, 0));
            first.refuses(scene, Edge.PLACE, "confirm", x -> x.confirm(12, 4));
            first.refuses(scene, Edge.PLACE, "link", x -> x.link(12, 4, 0, 0));
            first.refuses(scene, Edge.PLACE, "spend", x -> x.spend(3, 4, -1));
            first.refuses(scene, Edge.PLACE, "fix", x -> x.fix(24, 12, 4, 0));
            first.refuses(scene, Edge.ARGUMENT, "contract", x -> x.contract(0, 4, 501, true));
        }
        nothing.refuses(Scene.FULL, Edge.STATE, "publish", BasketryOffice::publish);
        nothing.refuses(Scene.ORDINARY, Edge.STATE, "quote", x -> x.quote(0, 0, 99, 100));
        nothing.refuses(Scene.ORDINARY, Edge.STATE, "link", x -> x.link(0, 0, 99, 100));
        nothing.refuses(Scene.ORDINARY, Edge.STATE, "fix", x -> x.fix(1, 0, 3, 99));
    }
}
