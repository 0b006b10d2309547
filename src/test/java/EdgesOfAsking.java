import java.util.function.BiConsumer;

/** The edges of the promises 11 to 27: what is asked. */
final class EdgesOfAsking {
    private static final Class<IndexOutOfBoundsException> PLACE = Edge.PLACE;
    private static final int FAR = Integer.MAX_VALUE;

    private EdgesOfAsking() { }

    static void all() {
        promise11Price();
        promise12IsMatched();
        promise13Relative();
        promise14Bounce();
        promise15OfGroup();
        promise16Share();
        promise17Index();
        promise18IndexAnew();
        promise19Corrected();
        promise20Published();
        promise21Growth();
        promise22Core();
        promise23Direct();
        promise24Doubts();
        promise25OfContract();
        promise26Owed();
        promise27Count();
    }

    // ---- what many of them tell

    private static void itsNumber(int promise, BiConsumer<BasketryOffice, Integer> call) {
        Edge edge = new Edge(promise, "`item`: its number");
        edge.none(Scene.EMPTY, 0, -1, PLACE, call);
        edge.range(Scene.ORDINARY, 0, 2, PLACE, call);
        edge.range(Scene.FULL, 0, 11, PLACE, call);
    }

    private static void outlets(int promise, BiConsumer<BasketryOffice, Integer> call) {
        fromNought(new Edge(promise, "`outlet`: 0 to 3"), 3, call);
    }

    private static void groups(int promise, BiConsumer<BasketryOffice, Integer> call) {
        fromNought(new Edge(promise, "`group`: 0 to 3"), 3, call);
    }

    private static void kinds(int promise, BiConsumer<BasketryOffice, Integer> call) {
        fromNought(new Edge(promise, "`kind`: 0 to 4"), 4, call);
    }

    private static void fromNought(Edge edge, int greatest, BiConsumer<BasketryOffice, Integer> call) {
        edge.range(Scene.ORDINARY, 0, greatest, PLACE, call);
        edge.range(Scene.FULL, 0, greatest, PLACE, call);
    }

    private static void publishedMonths(int promise, BiConsumer<BasketryOffice, Integer> call) {
        Edge edge = new Edge(promise, "`month`: a published one");
        edge.none(Scene.EMPTY, 0, -1, PLACE, call);
        edge.range(Scene.ORDINARY, 0, 1, PLACE, call);
        edge.range(Scene.NEARLY_FULL, 0, 22, PLACE, call);
        edge.range(Scene.FULL, 0, 23, PLACE, call);
    }

    private static void onlyMonth(int promise, BiConsumer<BasketryOffice, Integer> call) {
        publishedMonths(promise, call);
        Edge edge = new Edge(promise, "Throws `IndexOutOfBoundsException` if the month is not published");
        edge.refuses(Scene.EMPTY, PLACE, "the month 0, nothing published", x -> call.accept(x, 0));
        edge.refuses(Scene.ORDINARY, PLACE, "now", x -> call.accept(x, 2));
        edge.refuses(Scene.FULL, PLACE, "the month 24", x -> call.accept(x, 24));
    }

    /** The items of one group, with the mean, that are always in season. */
    private static BasketryOffice items(int mean, int... groups) {
        BasketryOffice x = new BasketryOffice();
        for (int group : groups) {
            x.item(group, mean, 4095);
        }
        return x;
    }

    /** Quotes of the item 0, at the outlets from 0 on; 0 cents are not told. */
    private static void publish(BasketryOffice x, int... cents) {
        for (int outlet = 0; outlet < cents.length; outlet++) {
            if (cents[outlet] > 0) {
                x.quote(0, outlet, cents[outlet], 100);
            }
        }
        x.publish();
    }

    // ---- promises 11 to 14

    private static void promise11Price() {
        itsNumber(11, (x, item) -> x.price(item, 0, 0));
        outlets(11, (x, outlet) -> x.price(1, outlet, 0));
        publishedMonths(11, (x, month) -> x.price(0, 0, month));
        Edge edge = new Edge(11, "Returns the PRICE; 0.0 without one.");
        BasketryOffice x = items(BasketryOffice.CARLI, 0, 1);
        x.quote(0, 0, 1, 10000);
        x.quote(1, 3, 100000, 1);
        x.publish();
        edge.due("the least rate", x.price(0, 0, 0), 0.0001);
        edge.due("the greatest rate", x.price(1, 3, 0), 100000.0);
        edge.due("no quote at the next outlet", x.price(0, 1, 0), 0.0);
        edge.due("nor at the one ahead", x.price(1, 2, 0), 0.0);
        x.item(2, BasketryOffice.DUTOT, 4095);
        edge.due("an item that is told after the month", x.price(2, 0, 0), 0.0);
        new Edge(11, "Returns a PRICE.").due("the last place of all", Scene.FULL.make().price(11, 3, 23), 4.0);
        Edge place = new Edge(11,
                "Throws `IndexOutOfBoundsException` if there is no such ITEM or OUTLET, or the month is not published");
        place.refuses(Scene.ORDINARY, PLACE, "now, with a quote", office -> office.price(0, 0, 2));
        place.refuses(Scene.ORDINARY, PLACE, "the outlet 4 ahead of the item 1", office -> office.price(0, 4, 0));
        place.refuses(Scene.ORDINARY, PLACE, "the outlet -1 behind the item 0", office -> office.price(1, -1, 0));
        place.refuses(Scene.ORDINARY, PLACE, "the item -1 of the month 1", office -> office.price(-1, 0, 1));
        place.refuses(Scene.FULL, PLACE, "the item 12 of the month 22", office -> office.price(12, 0, 22));
        place.refuses(Scene.FULL, PLACE, "none of them", office -> office.price(12, 4, 24));
    }

    private static void promise12IsMatched() {
        itsNumber(12, (x, item) -> x.isMatched(item, 0, 0));
        outlets(12, (x, outlet) -> x.isMatched(1, outlet, 0));
        publishedMonths(12, (x, month) -> x.isMatched(0, 0, month));
        Edge edge = new Edge(12, "Returns whether it is; not in the month 0.");
        Edge told = new Edge(12, "Tells whether an OUTLET is MATCHED.");
        BasketryOffice x = items(BasketryOffice.CARLI, 0);
        publish(x, 100);
        publish(x, 100);
        edge.due("the month 0", x.isMatched(0, 0, 0), false);
        edge.due("the month 1", x.isMatched(0, 0, 1), true);
        told.due("another outlet", x.isMatched(0, 1, 1), false);
        for (int month = 2; month < 24; month++) {
            publish(x, month % 2 == 0 ? 0 : 100);
            told.due("the month " + month, x.isMatched(0, 0, month), month % 2 == 1);
        }
        Edge place = new Edge(12,
                "Throws `IndexOutOfBoundsException` if there is no such ITEM or OUTLET, or the month is not published");
        place.refuses(Scene.ORDINARY, PLACE, "now, with a quote", office -> office.isMatched(0, 0, 2));
        place.refuses(Scene.ORDINARY, PLACE, "the outlet 4 ahead of the item 1", office -> office.isMatched(0, 4, 1));
        place.refuses(Scene.FULL, PLACE, "none of them", office -> office.isMatched(12, 4, 24));
    }

    private static void promise13Relative() {
        itsNumber(13, (x, item) -> x.relative(item, 1));
        publishedMonths(13, (x, month) -> x.relative(0, month));
        Edge edge = new Edge(13, "Returns the RELATIVE; 0.0 without one, also in the month 0.");
        Edge told = new Edge(13, "Returns the RELATIVE of an ITEM.");
        for (int mean = BasketryOffice.CARLI; mean <= BasketryOffice.HARMONIC; mean++) {
            BasketryOffice x = items(mean, 0);
            publish(x, 100, 200);
            publish(x, 150);
            publish(x);
            publish(x, 0, 0, 100);
            String by = "mean " + mean + ", ";
            edge.due(by + "the month 0", x.relative(0, 0), 0.0);
            edge.due(by + "one outlet matched", x.relative(0, 1), mean == BasketryOffice.HARMONIC ? 1.0 / (1.0 / 1.5) : 1.5);
            edge.due(by + "no quote", x.relative(0, 2), 0.0);
            edge.due(by + "a quote without a base", x.relative(0, 3), 0.0);
            x.item(0, mean, 4095);
            told.due(by + "an item that is told later", x.relative(1, 1), 0.0);
        }
        Edge place = new Edge(13,
                "Throws `IndexOutOfBoundsException` if there is no such ITEM, or the month is not published");
        place.refuses(Scene.ORDINARY, PLACE, "now", x -> x.relative(0, 2));
        place.refuses(Scene.ORDINARY, PLACE, "the item -1 of the month 1", x -> x.relative(-1, 1));
        place.refuses(Scene.FULL, PLACE, "both", x -> x.relative(12, 24));
    }

    private static void promise14Bounce() {
        itsNumber(14, (x, item) -> x.bounce(item, 1));
        publishedMonths(14, (x, month) -> x.bounce(0, month));
        Edge edge = new Edge(14, "Returns as told; 0.0 without a RELATIVE.");
        Edge same = new Edge(14, "if for each of the same MATCHED OUTLETS the rate and the BASE were exchanged");
        for (int mean = BasketryOffice.CARLI; mean <= BasketryOffice.HARMONIC; mean++) {
            BasketryOffice x = items(mean, 0);
            publish(x, 100, 100);
            x.quote(0, 0, 3000, 100);
            x.quote(0, 1, 301, 100);
            x.confirm(0, 0);
            x.publish();
            publish(x);
            edge.due("the month 0, mean " + mean, x.bounce(0, 0), 0.0);
            edge.due("no quote, mean " + mean, x.bounce(0, 2), 0.0);
            double there = mean == BasketryOffice.HARMONIC ? 1.0 / (1.0 / 30.0) : 30.0;
            double back = mean == BasketryOffice.HARMONIC ? 1.0 / (1.0 / (1.0 / 30.0)) : 1.0 / 30.0;
            same.due("30 times, and one that is not matched, mean " + mean, x.bounce(0, 1), there * back);
        }
        Edge place = new Edge(14,
                "Throws `IndexOutOfBoundsException` if there is no such ITEM, or the month is not published");
        place.refuses(Scene.ORDINARY, PLACE, "now", x -> x.bounce(0, 2));
        place.refuses(Scene.ORDINARY, PLACE, "the item -1 of the month 1", x -> x.bounce(-1, 1));
        place.refuses(Scene.FULL, PLACE, "both", x -> x.bounce(12, 24));
    }

    // ---- promises 15 to 19

    private static void promise15OfGroup() {
        groups(15, (x, group) -> x.ofGroup(group, 1));
        publishedMonths(15, (x, month) -> x.ofGroup(0, month));
        Edge edge = new Edge(15, "Returns the RELATIVE; 1.0 in the month 0.");
        Edge told = new Edge(15, "Returns the RELATIVE of a GROUP.");
        BasketryOffice x = items(BasketryOffice.CARLI, 3);
        publish(x, 100);
        publish(x, 120);
        for (int group = 0; group < 4; group++) {
            edge.due("the month 0, group " + group, x.ofGroup(group, 0), 1.0);
            told.due("the month 1, group " + group, x.ofGroup(group, 1), group == 3 ? 1.2 : 1.0);
        }
        Edge place = new Edge(15,
                "Throws `IndexOutOfBoundsException` if there is no such GROUP, or the month is not published");
        place.refuses(Scene.ORDINARY, PLACE, "now", office -> office.ofGroup(0, 2));
        place.refuses(Scene.ORDINARY, PLACE, "the group -1 of the month 1", office -> office.ofGroup(-1, 1));
        place.refuses(Scene.ORDINARY, PLACE, "the group 4 of the month 0", office -> office.ofGroup(4, 0));
        place.refuses(Scene.FULL, PLACE, "both", office -> office.ofGroup(4, 24));
    }

    private static void promise16Share() {
        kinds(16, (x, kind) -> x.share(kind, 0, 0));
        groups(16, (x, group) -> x.share(1, group, 0));
        publishedMonths(16, (x, month) -> x.share(0, 0, month));
        Edge edge = new Edge(16, "Returns the share.");
        Edge told = new Edge(16, "Returns a share.");
        BasketryOffice x = new BasketryOffice();
        x.spend(0, 3, 1000000000);
        x.spend(1, 3, 1);
        x.spend(1, 0, 1000000000);
        x.adopt();
        x.publish();
        edge.due("all, by the first household", x.share(2, 3, 0), 1.0);
        edge.due("nothing, by the first household", x.share(2, 0, 0), 0.0);
        edge.due("one cent of many", x.share(3, 3, 0), 1.0 / 1000000001.0);
        edge.due("nothing spent", x.share(4, 3, 0), 0.25);
        told.due("of two that spend", x.share(1, 3, 0), (1.0 + 1.0 / 1000000001.0) / 2.0);
        told.due("of all that is spent", x.share(0, 3, 0), 1000000001.0 / 2000000001.0);
        Edge place = new Edge(16,
                "Throws `IndexOutOfBoundsException` if there is no such kind or GROUP, or the month is not published");
        place.refuses(Scene.ORDINARY, PLACE, "the group 4 ahead of the kind 1", office -> office.share(0, 4, 0));
        place.refuses(Scene.ORDINARY, PLACE, "the kind 5 ahead of the month 1", office -> office.share(5, 0, 0));
        place.refuses(Scene.ORDINARY, PLACE, "now", office -> office.share(0, 0, 2));
        place.refuses(Scene.FULL, PLACE, "none of them", office -> office.share(5, 4, 24));
    }

    private static void promise17Index() {
        kinds(17, (x, kind) -> x.index(kind, 1));
        publishedMonths(17, (x, month) -> x.index(0, month));
        Edge edge = new Edge(17, "Returns the index.");
        Edge told = new Edge(17, "Returns an index.");
        BasketryOffice full = Scene.FULL.make();
        for (int kind = 0; kind < 5; kind++) {
            edge.due("the month 0, kind " + kind, full.index(kind, 0), 100.0);
            double step = 0.0;
            for (int group = 0; group < 4; group++) {
                step += full.share(kind, group, 23) * full.ofGroup(group, 23);
            }
            told.due("the month 23, kind " + kind, full.index(kind, 23), full.index(kind, 22) * step);
        }
        notOfIndex(17, BasketryOffice::index);
    }

    private interface OfIndex {
        double ask(BasketryOffice office, int kind, int month);
    }

    private static void notOfIndex(int promise, OfIndex call) {
        Edge place = new Edge(promise,
                "Throws `IndexOutOfBoundsException` if there is no such kind, or the month is not published");
        place.refuses(Scene.ORDINARY, PLACE, "the kind 5 ahead of the month 1", x -> call.ask(x, 5, 0));
        place.refuses(Scene.ORDINARY, PLACE, "the kind -1 of the month 1", x -> call.ask(x, -1, 1));
        place.refuses(Scene.ORDINARY, PLACE, "now", x -> call.ask(x, 0, 2));
        place.refuses(Scene.FULL, PLACE, "both", x -> call.ask(x, 5, 24));
    }

    private static void promise18IndexAnew() {
        kinds(18, (x, kind) -> x.indexAnew(kind, 1));
        publishedMonths(18, (x, month) -> x.indexAnew(0, month));
        Edge edge = new Edge(18, "Returns the index.");
        Edge same = new Edge(18, "Returns the same, redone from all QUOTES and LINKS.");
        BasketryOffice full = Scene.FULL.make();
        for (int kind = 0; kind < 5; kind++) {
            edge.due("the month 0, kind " + kind, full.indexAnew(kind, 0), 100.0);
            for (int month = 23; month >= 0; month--) {
                same.due("kind " + kind + ", month " + month, full.indexAnew(kind, month), full.index(kind, month));
            }
        }
        BasketryOffice x = Scene.ORDINARY.make();
        x.fix(1, 0, 0, 1);
        x.quote(0, 3, 1, 1);
        x.link(0, 3, 1, 1);
        x.spend(0, 3, 1000000000);
        x.adopt();
        for (int kind = 0; kind < 5; kind++) {
            same.due("not as fixed, nor by what is of now, kind " + kind, x.indexAnew(kind, 1), x.index(kind, 1));
        }
        notOfIndex(18, BasketryOffice::indexAnew);
    }

    private static void promise19Corrected() {
        kinds(19, (x, kind) -> x.corrected(kind, 1));
        publishedMonths(19, (x, month) -> x.corrected(0, month));
        Edge edge = new Edge(19, "Returns the index.");
        Edge told = new Edge(19, "Returns what the index is as corrected.");
        BasketryOffice x = items(BasketryOffice.CARLI, 0);
        publish(x, 100);
        publish(x, 110);
        edge.due("nothing fixed", x.corrected(0, 1), x.index(0, 1));
        x.fix(0, 0, 0, 100);
        x.fix(1, 0, 0, 110);
        told.due("fixed to the same", x.corrected(0, 1), x.index(0, 1));
        double rest = 0.25 * 1.0;
        for (int cents : new int[] {300, 301, 100000, 34, 33, 1}) {
            x.fix(1, 0, 0, cents);
            double relative = cents == 300 || cents == 34 ? (double) cents / 100.0 : 1.0;
            told.due("fixed to " + cents, x.corrected(0, 1), 100.0 * (0.25 * relative + rest + rest + rest));
            told.due("fixed to " + cents + ", the month 0", x.corrected(0, 0), 100.0);
        }
        BasketryOffice full = Scene.FULL.make();
        for (int kind = 0; kind < 5; kind++) {
            told.due("of the month 0, kind " + kind, full.corrected(kind, 0), 100.0);
            told.due("ahead of the fix, kind " + kind, full.corrected(kind, 4), full.index(kind, 4));
        }
        told.due("from the fix on", full.corrected(2, 5) != full.index(2, 5), true);
        notOfIndex(19, BasketryOffice::corrected);
    }

    // ---- promises 20 to 24

    private static void promise20Published() {
        onlyMonth(20, BasketryOffice::published);
        Edge edge = new Edge(20, "Returns the number that was published.");
        Edge told = new Edge(20, "Returns the number.");
        BasketryOffice x = items(BasketryOffice.CARLI, 0);
        int[] numbers = new int[24];
        for (int month = 0; month < 24; month++) {
            x.quote(0, 0, 100 + month * 7, 100);
            numbers[month] = x.publish();
            told.due("the latest month, " + month, x.published(month), numbers[month]);
        }
        x.fix(0, 0, 0, 50);
        x.fix(23, 0, 0, 1);
        for (int month = 0; month < 24; month++) {
            edge.due("it was not fixed, month " + month, x.published(month), numbers[month]);
        }
    }

    private static void promise21Growth() {
        Edge month = new Edge(21, "`month`: a published one, 12 or higher");
        month.range(Scene.FULL, 12, 23, PLACE, BasketryOffice::growth);
        month.range(Scene.NEARLY_FULL, 12, 22, PLACE, BasketryOffice::growth);
        month.none(Scene.ORDINARY, 12, 11, PLACE, BasketryOffice::growth);
        Edge place = new Edge(21, "Throws `IndexOutOfBoundsException` if the month is not published, or below 12");
        place.refuses(Scene.EMPTY, PLACE, "the month 12, nothing published", x -> x.growth(12));
        place.refuses(Scene.ORDINARY, PLACE, "the month 1", x -> x.growth(1));
        place.refuses(Scene.FULL, PLACE, "the month 0", x -> x.growth(0));
        place.refuses(Scene.FULL, PLACE, "the month 11", x -> x.growth(11));
        place.refuses(Scene.FULL, PLACE, "the month 24", x -> x.growth(24));
        Edge told = new Edge(21, "both made floats first, less 1.0");
        Edge edge = new Edge(21, "Returns as told.");
        BasketryOffice x = items(BasketryOffice.CARLI, 0);
        publish(x, 100);
        for (int passed = 1; passed < 24; passed++) {
            publish(x, passed < 12 ? 100 : 100 + 13 * (passed - 11));
        }
        for (int asked = 12; asked < 24; asked++) {
            float quotient = (float) x.index(0, asked) / (float) x.index(0, asked - 12);
            told.due("the month " + asked, x.growth(asked), quotient - 1.0f);
        }
        edge.due("the month 12, from the month 0", x.growth(12), (float) x.index(0, 12) / 100.0f - 1.0f);
        int roundedOtherwise = 0;
        for (int asked = 12; asked < 24; asked++) {
            roundedOtherwise += x.growth(asked) == (float) (x.index(0, asked) / x.index(0, asked - 12) - 1.0) ? 0 : 1;
        }
        told.due("in doubles some would differ", roundedOtherwise > 0, true);
        growthOfKind0();
    }

    private static void growthOfKind0() {
        Edge edge = new Edge(21, "Returns how much the index of the kind 0 has grown in 12 months");
        BasketryOffice x = nineTenths();
        for (int month = 0; month < 24; month++) {
            publish(x, month == 0 ? 100 : month < 12 ? 200 : 400);
        }
        double twice = 0.9 * 2.0 + 0.1 * 1.0;
        float earlier = (float) (100.0 * twice);
        float later = (float) (100.0 * twice * twice);
        edge.due("twice, from the month 0", x.growth(12), later / 100.0f - 1.0f);
        edge.due("once, from the month 1", x.growth(13), later / earlier - 1.0f);
        edge.due("once, from the month 11", x.growth(23), later / earlier - 1.0f);
    }

    /** An item that nine tenths of all cents are spent on, but not of each household's. */
    private static BasketryOffice nineTenths() {
        BasketryOffice x = items(BasketryOffice.CARLI, 0);
        x.spend(0, 0, 9);
        x.spend(1, 1, 1);
        x.adopt();
        return x;
    }

    private static void promise22Core() {
        onlyMonth(22, BasketryOffice::core);
        Edge edge = new Edge(22, "Returns the core; 1.0 in the month 0.");
        BasketryOffice x = Scene.FULL.make();
        edge.due("the month 0", x.core(0), 1.0);
        Edge told = new Edge(22, "Returns the core of a month.");
        told.due("one group that moved", x.core(1), 1.0);
        BasketryOffice all = items(BasketryOffice.CARLI, 0, 1, 2, 3);
        for (int cents : new int[] {100, 101, 102}) {
            for (int item = 0; item < 4; item++) {
                all.quote(item, 0, item == 0 ? cents : cents * cents * (item + 1), 100);
            }
            all.publish();
        }
        double square = (102.0 * 102.0 * 2.0 / 100.0) / (101.0 * 101.0 * 2.0 / 100.0);
        double third = (102.0 * 102.0 * 3.0 / 100.0) / (101.0 * 101.0 * 3.0 / 100.0);
        double fourth = (102.0 * 102.0 * 4.0 / 100.0) / (101.0 * 101.0 * 4.0 / 100.0);
        double most = square >= third && square >= fourth ? square : third >= fourth ? third : fourth;
        double left = most == square ? third + fourth : most == third ? square + fourth : square + third;
        told.due("all groups moved", all.core(2), left / 2.0);
    }

    private static void promise23Direct() {
        onlyMonth(23, BasketryOffice::direct);
        Edge edge = new Edge(23, "Returns the direct index of a month.");
        BasketryOffice x = items(BasketryOffice.CARLI, 0, 3);
        x.spend(1, 0, 3);
        x.spend(2, 3, 4);
        x.adopt();
        double ofFirst = 1.0;
        double ofLast = 1.0;
        for (int month = 0; month < 24; month++) {
            x.quote(0, 0, 100 + month, 100);
            x.quote(1, 0, 300 - month, 100);
            if (month == 23) {
                x.spend(0, 0, 3);
                x.adopt();
            }
            x.publish();
            ofFirst = month == 0 ? 1.0 : ofFirst * x.relative(0, month);
            ofLast = month == 0 ? 1.0 : ofLast * x.relative(1, month);
            double share = month < 23 ? 3.0 / 7.0 : 6.0 / 10.0;
            double other = month < 23 ? 4.0 / 7.0 : 4.0 / 10.0;
            edge.due("the month " + month, x.direct(month), 100.0 * (share * ofFirst + other * ofLast));
        }
        new Edge(23, "Returns the direct index.")
                .due("the month 0 in the end", x.direct(0), 100.0 * (3.0 / 7.0 + 4.0 / 7.0));
    }

    private static void promise24Doubts() {
        onlyMonth(24, BasketryOffice::doubts);
        Edge edge = new Edge(24, "Returns how many.");
        Edge counted = new Edge(24, "Counts the QUOTES of a month whose OUTLETS have a BASE, but are not MATCHED.");
        BasketryOffice x = new BasketryOffice();
        for (int item = 0; item < 12; item++) {
            x.item(item % 4, item % 3, 4095);
        }
        for (int month = 0; month < 2; month++) {
            for (int place = 0; place < 48; place++) {
                x.quote(place % 12, place / 12, month == 0 ? 100 : 301, 100);
            }
            x.publish();
        }
        edge.due("the month 0", x.doubts(0), 0);
        edge.due("all 48", x.doubts(1), 48);
        x.publish();
        edge.due("none without a quote", x.doubts(2), 0);
        for (int place = 0; place < 48; place++) {
            x.quote(place % 12, place / 12, place % 12 == 11 ? 301 : 300, 100);
        }
        x.publish();
        counted.due("the bound, and one cent more", x.doubts(3), 4);
        BasketryOffice y = items(BasketryOffice.CARLI, 0);
        publish(y, 100);
        publish(y, 0, 100000);
        counted.due("no base", y.doubts(1), 0);
        y.link(0, 3, 1, 1);
        publish(y);
        publish(y, 0, 0, 0, 301);
        counted.due("a base by a link", y.doubts(3), 1);
        publish(y, 0, 0, 0, 904);
        counted.due("a base by a price", y.doubts(4), 1);
    }

    // ---- promises 25 to 27

    private static void promise25OfContract() {
        Edge contract = new Edge(25, "`contract`: its number");
        contract.none(Scene.EMPTY, 0, -1, PLACE, (x, number) -> x.ofContract(number, 0));
        contract.range(Scene.ORDINARY, 0, 1, PLACE, (x, number) -> x.ofContract(number, 0));
        contract.range(Scene.FULL, 0, 9, PLACE, (x, number) -> x.ofContract(number, 3));
        Edge what = new Edge(25, "`what`: 0 the wage, 1 the last number, 2 its month, 3 all that was paid");
        what.range(Scene.ORDINARY, 0, 3, PLACE, (x, number) -> x.ofContract(1, number));
        what.range(Scene.FULL, 0, 3, PLACE, (x, number) -> x.ofContract(9, number));
        Edge edge = new Edge(25, "Returns as told.");
        BasketryOffice x = Scene.FULL.make();
        long[] atFirst = {1009, x.published(23), 23, 0};
        for (int asked = 0; asked < 4; asked++) {
            edge.due("told after the last month, " + asked, x.ofContract(9, asked), atFirst[asked]);
        }
        Edge told = new Edge(25, "Tells of a contract.");
        BasketryOffice dear = new BasketryOffice();
        dear.publish();
        dear.contract(1000000000, 0, 0, true);
        for (int month = 1; month < 24; month++) {
            dear.publish();
            told.due("paid by the month " + month, dear.ofContract(0, 3), 1000000000L * month);
            told.due("its month, " + month, dear.ofContract(0, 2), (long) month);
        }
        Edge place = new Edge(25,
                "Throws `IndexOutOfBoundsException` if there is no such contract, or what is out of range");
        place.refuses(Scene.EMPTY, PLACE, "no contract", office -> office.ofContract(0, 0));
        place.refuses(Scene.ORDINARY, PLACE, "what, 4", office -> office.ofContract(0, 4));
        place.refuses(Scene.ORDINARY, PLACE, "both", office -> office.ofContract(2, 4));
    }

    private static void promise26Owed() {
        Edge contract = new Edge(26, "`contract`: its number");
        contract.none(Scene.EMPTY, 0, -1, PLACE, BasketryOffice::owed);
        contract.range(Scene.ORDINARY, 0, 1, PLACE, BasketryOffice::owed);
        contract.range(Scene.FULL, 0, 9, PLACE, BasketryOffice::owed);
        Edge place = new Edge(26, "Throws `IndexOutOfBoundsException` if there is no such contract");
        place.refuses(Scene.EMPTY, PLACE, "no contract", office -> office.owed(0));
        place.refuses(Scene.FULL, PLACE, "the 11th", office -> office.owed(10));
        Edge edge = new Edge(26, "Returns as told, below 0 if too much was paid.");
        BasketryOffice x = items(BasketryOffice.CARLI, 0);
        x.spend(0, 0, 1);
        x.adopt();
        publish(x, 100);
        x.contract(1000000000, 0, 0, false);
        x.contract(500000000, 0, 0, true);
        for (int month = 1; month < 24; month++) {
            publish(x, 200);
        }
        edge.due("nothing fixed", x.owed(0), 0L);
        edge.due("nothing fixed, twice", x.owed(1), 0L);
        for (int month = 1; month < 24; month++) {
            x.fix(month, 0, 0, 50);
        }
        edge.due("too much was paid", x.owed(0), -500000000L * 23);
        edge.due("too much was paid, though not below the floor", x.owed(1), -500000000L * 23);
        x.fix(0, 0, 0, 25);
        edge.due("1000 at first, as corrected too", x.owed(0), 0L);
        x.fix(23, 0, 0, 49);
        edge.due("980 in the last month", x.owed(0), 0L - 1000000000L + 980000000L);
        onlySince();
    }

    /** Only what was paid since the contract was told can be owed. */
    private static void onlySince() {
        Edge edge = new Edge(26,
                "what would have been paid by now with the numbers as corrected in place of those that were "
                + "published, that at first with them, less what was paid");
        BasketryOffice x = items(BasketryOffice.CARLI, 0);
        x.spend(0, 0, 1);
        x.adopt();
        publish(x, 100);
        publish(x, 200);
        x.contract(100, 0, 0, false);
        x.fix(0, 0, 0, 200);
        edge.due("nothing paid yet", x.owed(0), 0L);
        publish(x, 200);
        edge.due("the same steps since", x.owed(0), 0L);
        x.fix(1, 0, 0, 100);
        edge.due("500 at first, as corrected", x.owed(0), 200L - 100L);
        BasketryOffice y = nineTenths();
        publish(y, 100);
        y.contract(1000, 0, 0, true);
        publish(y, 100);
        y.fix(1, 0, 0, 200);
        edge.due("the numbers of the kind 0", y.owed(0), 1900L - 1000L);
    }

    private static void promise27Count() {
        Edge what = new Edge(27,
                "`what`: 0 ITEMS, 1 months that are published, 2 QUOTES of NOW, 3 contracts, 4 QUOTES that are fixed");
        for (Scene scene : Scene.values()) {
            what.range(scene, 0, 4, PLACE, BasketryOffice::count);
        }
        Edge edge = new Edge(27, "Returns how many.");
        new Edge(27, "Counts.").due("nothing told at all", new BasketryOffice().count(0), 0);
        int[][] want = {{0, 0, 0, 0, 0}, {3, 2, 2, 2, 1}, {11, 23, 5, 9, 1}, {12, 24, 0, 10, 1}};
        for (Scene scene : Scene.values()) {
            for (int asked = 0; asked < 5; asked++) {
                edge.due(asked + " in " + scene, scene.make().count(asked), want[scene.ordinal()][asked]);
            }
        }
        Edge place = new Edge(27, "Throws `IndexOutOfBoundsException` if what is out of range");
        place.refuses(Scene.EMPTY, PLACE, "5", x -> x.count(5));
        place.refuses(Scene.FULL, PLACE, "-1", x -> x.count(-1));
        place.refuses(Scene.FULL, PLACE, "the farthest", x -> x.count(FAR));
    }
}
