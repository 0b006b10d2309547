/** The edges of the promises 1 to 10: a new object, and what is told. */
final class EdgesOfTelling {
    private static final Class<IndexOutOfBoundsException> PLACE = Edge.PLACE;
    private static final Class<IllegalArgumentException> ARGUMENT = Edge.ARGUMENT;
    private static final Class<IllegalStateException> STATE = Edge.STATE;
    private static final int FAR = Integer.MAX_VALUE;

    private EdgesOfTelling() { }

    static void all() {
        promise1NewObject();
        promise2Ranges();
        promise2Season();
        promise2Number();
        promise2Throws();
        promise3Ranges();
        promise3Returns();
        promise3Throws();
        promise4Ranges();
        promise4Returns();
        promise4Throws();
        promise5Ranges();
        promise5Throws();
        promise6Ranges();
        promise6Returns();
        promise6Throws();
        promise7Adopt();
        promise8Publish();
        promise8Throws();
        promise9Ranges();
        promise9Returns();
        promise9Throws();
        promise10Ranges();
        promise10Returns();
        promise10Throws();
    }

    private static BasketryOffice oneItem(int season) {
        BasketryOffice x = new BasketryOffice();
        x.item(0, BasketryOffice.CARLI, season);
        return x;
    }

    private static void publish(BasketryOffice x, int times) {
        for (int time = 0; time < times; time++) {
            x.publish();
        }
    }

    // ---- promise 1

    private static void promise1NewObject() {
        Edge edge = new Edge(1, "`BasketryOffice()`: No items; the month 0.");
        BasketryOffice x = new BasketryOffice();
        String[] counted = {"items", "months published", "quotes of now", "contracts", "quotes fixed"};
        for (int what = 0; what < counted.length; what++) {
            edge.due(counted[what], x.count(what), 0);
        }
        edge.refuses(Scene.EMPTY, PLACE, "no item 0", office -> office.quote(0, 0, 1, 1));
        edge.refuses(Scene.EMPTY, PLACE, "no month 0 published", office -> office.published(0));
        edge.due("the month 0 is now: its season", Check.outcome(() -> oneItem(1).quote(0, 0, 1, 1)), "nothing thrown");
        edge.due("the month 1 is not now", Check.outcome(() -> oneItem(2).quote(0, 0, 1, 1)), "IllegalStateException");
        nothingToldInAllMonths(edge);
    }

    /** Nothing told at all, but all months published. */
    private static void nothingToldInAllMonths(Edge edge) {
        BasketryOffice x = new BasketryOffice();
        for (int month = 0; month < 24; month++) {
            String at = "nothing told, month " + month + ": ";
            edge.due(at + "publish", x.publish(), 1000);
            edge.due(at + "published", x.published(month), 1000);
            edge.due(at + "core", x.core(month), 1.0);
            edge.due(at + "direct", x.direct(month), 100.0);
            edge.due(at + "doubts", x.doubts(month), 0);
            edge.due(at + "share", x.share(month % 5, month % 4, month), 0.25);
            edge.due(at + "ofGroup", x.ofGroup(month % 4, month), 1.0);
            edge.due(at + "index", x.index(month % 5, month), 100.0);
            edge.due(at + "indexAnew", x.indexAnew(month % 5, month), 100.0);
            edge.due(at + "corrected", x.corrected(month % 5, month), 100.0);
            edge.due(at + "growth", Check.answer(() -> x.growth(x.count(1) - 1)),
                    month < 12 ? "IndexOutOfBoundsException" : "0.0");
        }
    }

    // ---- promise 2

    private static void promise2Ranges() {
        new Edge(2, "`group`: 0 to 3").range(Scene.ORDINARY, 0, 3, PLACE, (x, group) -> x.item(group, 0, 1));
        new Edge(2, "`mean`: CARLI to HARMONIC")
                .range(Scene.ORDINARY, BasketryOffice.CARLI, BasketryOffice.HARMONIC, ARGUMENT, (x, mean) -> x.item(0, mean, 1));
        new Edge(2, "`season`: 1 to 4095").range(Scene.ORDINARY, 1, 4095, ARGUMENT, (x, season) -> x.item(0, 0, season));
        Edge edge = new Edge(2, "Tells an ITEM.");
        edge.lets(Scene.EMPTY, "the first", x -> x.item(3, 2, 4095));
        edge.lets(Scene.NEARLY_FULL, "the last, with 23 months published", x -> x.item(3, 2, 4095));
        BasketryOffice published = new BasketryOffice();
        publish(published, 24);
        edge.due("with 24 months published", published.item(0, 0, 1), 0);
    }

    private static void promise2Season() {
        Edge edge = new Edge(2, "the remainders by 12, as bits, that of 0 lowest");
        for (int season : new int[] {1, 2, 1 << 10, 1 << 11, 1 | 1 << 11, 4095 - 1, 4095 >> 1, 4095}) {
            BasketryOffice x = oneItem(season);
            for (int month = 0; month < 24; month++) {
                boolean isInSeason = (season & 1 << (month < 12 ? month : month - 12)) != 0;
                edge.due("season " + season + ", month " + month, Check.outcome(() -> x.quote(0, 0, 1, 1)),
                        isInSeason ? "nothing thrown" : "IllegalStateException");
                x.publish();
            }
        }
    }

    private static void promise2Number() {
        Edge edge = new Edge(2, "Returns its number.");
        BasketryOffice x = new BasketryOffice();
        for (int number = 0; number < 12; number++) {
            edge.due("from 0 to 11", x.item(3 - number % 4, number % 3, 1 + number), number);
        }
        edge.due("the last of 12, late", Scene.NEARLY_FULL.make().item(0, 0, 1), 11);
    }

    private static void promise2Throws() {
        Edge place = new Edge(2, "Throws `IndexOutOfBoundsException` if there is no such GROUP");
        place.refuses(Scene.ORDINARY, PLACE, "-1, nor mean, nor season", x -> x.item(-1, -1, 0));
        place.refuses(Scene.FULL, PLACE, "4, with 12 items", x -> x.item(4, 0, 1));
        place.refuses(Scene.FULL, PLACE, "4, nor season, with 12 items", x -> x.item(4, 0, 4096));
        Edge argument = new Edge(2, "Throws `IllegalArgumentException` if mean or season is out of range");
        argument.refuses(Scene.ORDINARY, ARGUMENT, "both", x -> x.item(0, 3, 4096));
        argument.refuses(Scene.FULL, ARGUMENT, "mean, with 12 items", x -> x.item(0, 3, 1));
        argument.refuses(Scene.FULL, ARGUMENT, "season, with 12 items", x -> x.item(0, 0, 0));
        Edge state = new Edge(2, "Throws `IllegalStateException` if there are 12");
        state.lets(Scene.NEARLY_FULL, "the 12th", x -> x.item(0, 0, 1));
        state.refuses(Scene.FULL, STATE, "the 13th", x -> x.item(0, 0, 1));
        state.refuses(Scene.FULL, STATE, "the 13th of another kind", x -> x.item(3, 2, 4095));
    }

    // ---- promise 3

    /** Quotes and links are told alike. */
    private interface Goods {
        void tell(BasketryOffice x, int item, int outlet, int cents, int grams);
    }

    private static void rangesOfGoods(int promise, Goods goods) {
        Edge item = new Edge(promise, "`item`: its number");
        item.range(Scene.ORDINARY, 0, 2, PLACE, (x, number) -> goods.tell(x, number, 1, 1, 1));
        item.range(Scene.NEARLY_FULL, 0, 10, PLACE, (x, number) -> goods.tell(x, number, 3, 1, 1));
        item.none(Scene.EMPTY, 0, -1, PLACE, (x, number) -> goods.tell(x, number, 0, 1, 1));
        new Edge(promise, "`outlet`: 0 to 3")
                .range(Scene.NEARLY_FULL, 0, 3, PLACE, (x, outlet) -> goods.tell(x, 1, outlet, 1, 1));
        new Edge(promise, "`cents`: 1 to 100000")
                .range(Scene.ORDINARY, 1, 100000, ARGUMENT, (x, cents) -> goods.tell(x, 0, 1, cents, 1));
        new Edge(promise, "`grams`: 1 to 10000")
                .range(Scene.ORDINARY, 1, 10000, ARGUMENT, (x, grams) -> goods.tell(x, 0, 1, 1, grams));
    }

    private static void wrongGoods(int promise, Goods goods) {
        Edge place = new Edge(promise, "Throws `IndexOutOfBoundsException` if there is no such ITEM or OUTLET");
        place.refuses(Scene.ORDINARY, PLACE, "neither item nor outlet nor cents", x -> goods.tell(x, 3, 4, 0, 0));
        place.refuses(Scene.ORDINARY, PLACE, "the outlet -1 behind the item 0", x -> goods.tell(x, 1, -1, 1, 1));
        place.refuses(Scene.ORDINARY, PLACE, "the outlet 4 ahead of the item 2", x -> goods.tell(x, 1, 4, 1, 1));
        place.refuses(Scene.FULL, PLACE, "the outlet 4, with 24 months published", x -> goods.tell(x, 0, 4, 1, 1));
        place.refuses(Scene.FULL, PLACE, "the item 12, with 24 months published", x -> goods.tell(x, 12, 0, 1, 1));
        Edge argument = new Edge(promise, "Throws `IllegalArgumentException` if cents or grams is out of range");
        argument.refuses(Scene.ORDINARY, ARGUMENT, "cents, told before", x -> goods.tell(x, 0, 0, 100001, 1));
        argument.refuses(Scene.ORDINARY, ARGUMENT, "grams, told before", x -> goods.tell(x, 0, 0, 1, 10001));
        argument.refuses(Scene.ORDINARY, ARGUMENT, "grams, out of season", x -> goods.tell(x, 1, 0, 1, 0));
        argument.refuses(Scene.FULL, ARGUMENT, "both, with 24 months published", x -> goods.tell(x, 0, 0, 0, 10001));
    }

    /** Not once more, and not with 24 months published. */
    private static void refusedGoods(Edge state, Goods goods) {
        state.refuses(Scene.ORDINARY, STATE, "told before", x -> goods.tell(x, 0, 0, 1, 1));
        state.lets(Scene.NEARLY_FULL, "23 months published", x -> goods.tell(x, 0, 0, 1, 1));
        state.refuses(Scene.FULL, STATE, "24 months published", x -> goods.tell(x, 0, 0, 1, 1));
        state.refuses(Scene.FULL, STATE, "24 months published, the last place", x -> goods.tell(x, 11, 3, 1, 1));
    }

    private static void promise3Ranges() {
        rangesOfGoods(3, BasketryOffice::quote);
        Edge now = new Edge(3, "Tells a QUOTE of NOW.");
        BasketryOffice x = oneItem(4095);
        publish(x, 23);
        x.quote(0, 3, 100000, 10000);
        x.publish();
        now.due("the last month", x.price(0, 3, 23), 10.0);
        now.due("not the month before", x.price(0, 3, 22), 0.0);
    }

    private static void promise3Returns() {
        Edge edge = new Edge(3, "Returns how many QUOTES of NOW there are then.");
        BasketryOffice x = new BasketryOffice();
        for (int item = 0; item < 12; item++) {
            x.item(item % 4, item % 3, 4095);
        }
        for (int month = 0; month < 2; month++) {
            for (int place = 0; place < 48; place++) {
                edge.due("from 1 to 48, month " + month, x.quote(place % 12, place / 12, 100000, 1), place + 1);
            }
            edge.due("48 are all", x.count(2), 48);
            x.publish();
        }
        edge.due("a link is none", Check.answer(() -> {
            x.link(0, 0, 1, 1);
            return x.quote(0, 0, 1, 1);
        }), "1");
    }

    private static void promise3Throws() {
        wrongGoods(3, BasketryOffice::quote);
        Edge state = new Edge(3,
                "Throws `IllegalStateException` if the ITEM is not in season, there is a QUOTE, or 24 months are published");
        state.refuses(Scene.ORDINARY, STATE, "not in season", x -> x.quote(1, 0, 1, 1));
        state.refuses(Scene.ORDINARY, STATE, "the same quote", x -> x.quote(2, 0, 350, 100));
        refusedGoods(state, BasketryOffice::quote);
    }

    // ---- promise 4

    private static void promise4Ranges() {
        Edge item = new Edge(4, "`item`: its number");
        item.range(Scene.ORDINARY, 0, 2, PLACE, (x, number) -> x.confirm(number, 0));
        item.none(Scene.NEARLY_FULL, 0, 10, PLACE, (x, number) -> x.confirm(number, 2));
        item.none(Scene.EMPTY, 0, -1, PLACE, (x, number) -> x.confirm(number, 0));
        new Edge(4, "`outlet`: 0 to 3").range(Scene.NEARLY_FULL, 0, 3, PLACE, (x, outlet) -> x.confirm(9, outlet));
    }

    private static void promise4Returns() {
        Edge now = new Edge(4, "Confirms a QUOTE of NOW.");
        BasketryOffice x = oneItem(4095);
        for (int month = 0; month < 24; month++) {
            x.quote(0, 3, month % 2 == 0 ? 10 : 300, 1);
            now.due("in the month " + month, x.confirm(0, 3), false);
            x.publish();
            now.due("by it 30 times are matched, month " + month, x.isMatched(0, 3, month), month > 0);
        }
        Edge edge = new Edge(4, "Returns whether it was confirmed.");
        BasketryOffice y = Scene.NEARLY_FULL.make();
        edge.due("at first", y.confirm(10, 2), false);
        edge.due("then", y.confirm(10, 2), true);
        edge.due("for ever", y.confirm(10, 2), true);
        y.quote(10, 1, 1, 1);
        edge.due("another outlet", y.confirm(10, 1), false);
    }

    private static void promise4Throws() {
        Edge place = new Edge(4, "Throws `IndexOutOfBoundsException` if there is no such ITEM or OUTLET");
        place.refuses(Scene.ORDINARY, PLACE, "neither", x -> x.confirm(3, 4));
        place.refuses(Scene.ORDINARY, PLACE, "the outlet 4 ahead of the item 2", x -> x.confirm(1, 4));
        place.refuses(Scene.FULL, PLACE, "the outlet -1, with 24 months published", x -> x.confirm(0, -1));
        place.refuses(Scene.FULL, PLACE, "the item 12, with 24 months published", x -> x.confirm(12, 0));
        Edge state = new Edge(4, "Throws `IllegalStateException` if there is no QUOTE");
        state.refuses(Scene.ORDINARY, STATE, "at that outlet", x -> x.confirm(0, 1));
        state.refuses(Scene.ORDINARY, STATE, "out of season", x -> x.confirm(1, 0));
        state.refuses(Scene.NEARLY_FULL, STATE, "only one of the month before", x -> x.confirm(0, 0));
        state.refuses(Scene.NEARLY_FULL, STATE, "only a link", x -> x.confirm(10, 1));
        state.refuses(Scene.FULL, STATE, "24 months published", x -> x.confirm(11, 3));
    }

    // ---- promise 5

    private static void promise5Ranges() {
        rangesOfGoods(5, BasketryOffice::link);
        Edge now = new Edge(5, "Tells a LINK of NOW.");
        BasketryOffice x = oneItem(1);
        publish(x, 22);
        x.link(0, 0, 1, 10000);
        x.link(0, 3, 100000, 1);
        x.publish();
        x.publish();
        now.due("the least, not in its month", x.price(0, 0, 22), 0.0);
        now.due("the least, in the month after it", x.price(0, 0, 23), 0.0001);
        now.due("the greatest, not in its month", x.price(0, 3, 22), 0.0);
        now.due("the greatest, in the month after it", x.price(0, 3, 23), 100000.0);
    }

    private static void promise5Throws() {
        wrongGoods(5, BasketryOffice::link);
        Edge state = new Edge(5, "Throws `IllegalStateException` if there is a LINK, or 24 months are published");
        state.refuses(Scene.ORDINARY, STATE, "the same link", x -> x.link(0, 0, 140, 100));
        state.lets(Scene.ORDINARY, "one of the month before", x -> x.link(2, 0, 155, 50));
        state.lets(Scene.ORDINARY, "not in season", x -> x.link(1, 0, 1, 1));
        refusedGoods(state, BasketryOffice::link);
    }

    // ---- promise 6

    private static void promise6Ranges() {
        for (Scene scene : Scene.values()) {
            new Edge(6, "`household`: 0 to 2").range(scene, 0, 2, PLACE, (x, household) -> x.spend(household, 0, 1));
            new Edge(6, "`group`: 0 to 3").range(scene, 0, 3, PLACE, (x, group) -> x.spend(1, group, 1));
            new Edge(6, "`cents`: 0 to 1000000000")
                    .range(scene, 0, 1000000000, ARGUMENT, (x, cents) -> x.spend(1, 1, cents));
        }
    }

    private static void promise6Returns() {
        Edge edge = new Edge(6, "Returns what it was.");
        BasketryOffice x = new BasketryOffice();
        for (int cents : new int[] {1000000000, 0}) {
            for (int place = 0; place < 12; place++) {
                edge.due("each for itself", x.spend(place % 3, place / 3, cents), 1000000000 - cents);
            }
        }
        BasketryOffice all = Scene.FULL.make();
        edge.due("told and adopted, with 24 months published", all.spend(0, 0, 1), 70);
        edge.due("told, but not adopted", all.spend(0, 0, 2), 1);
        new Edge(6, "Tells what a HOUSEHOLD spends on a GROUP.")
                .due("in place of what was told", all.adopt(), 2L + 30);
    }

    private static void promise6Throws() {
        Edge place = new Edge(6, "Throws `IndexOutOfBoundsException` if there is no such HOUSEHOLD or GROUP");
        place.refuses(Scene.ORDINARY, PLACE, "neither", x -> x.spend(3, 4, 1));
        place.refuses(Scene.ORDINARY, PLACE, "the household 3, nor cents", x -> x.spend(3, 0, -1));
        place.refuses(Scene.ORDINARY, PLACE, "the group -1 of the household 1, nor cents", x -> x.spend(1, -1, FAR));
        Edge argument = new Edge(6, "Throws `IllegalArgumentException` if cents is out of range");
        argument.refuses(Scene.ORDINARY, ARGUMENT, "-1", x -> x.spend(0, 0, -1));
        argument.refuses(Scene.ORDINARY, ARGUMENT, "one more than the greatest", x -> x.spend(2, 3, 1000000001));
    }

    // ---- promises 7 and 8

    private static void promise7Adopt() {
        Edge edge = new Edge(7, "Returns all of them, together.");
        BasketryOffice x = new BasketryOffice();
        edge.due("none told", x.adopt(), 0L);
        for (int place = 0; place < 12; place++) {
            x.spend(place % 3, place / 3, 1000000000);
            edge.due("more than an int holds", x.adopt(), (place + 1) * 1000000000L);
        }
        edge.due("once more", x.adopt(), 12000000000L);
        Edge adopted = new Edge(7, "Adopts all spendings.");
        x.publish();
        for (int kind = 0; kind < 5; kind++) {
            adopted.due("the greatest of all", x.share(kind, 3, 0), 0.25);
        }
        x.spend(2, 3, 999999999);
        x.adopt();
        x.publish();
        adopted.due("one cent less", x.share(4, 3, 1), 999999999.0 / 3999999999.0);
        adopted.due("one cent less of all", x.share(0, 3, 1), 2999999999.0 / 11999999999.0);
        BasketryOffice full = Scene.FULL.make();
        adopted.due("with 24 months published", full.adopt(), 100L);
        adopted.due("which changes no share", full.share(0, 0, 23), 0.7);
    }

    private static void promise8Publish() {
        Edge edge = new Edge(8, "Returns the number that is published.");
        BasketryOffice x = Scene.NEARLY_FULL.make();
        int last = x.publish();
        edge.due("of the month 23", last, x.published(23));
        Edge next = new Edge(8, "Publishes NOW; the next month is NOW then.");
        BasketryOffice y = oneItem(1 << 1 | 1 << 11);
        y.publish();
        next.due("the month 1, in season", y.quote(0, 0, 1, 1), 1);
        next.due("one quote of now", y.count(2), 1);
        y.publish();
        next.due("none of now", y.count(2), 0);
        next.due("the month 2, out of season", Check.outcome(() -> y.quote(0, 0, 1, 1)), "IllegalStateException");
        publish(y, 21);
        next.due("the month 23, in season", y.quote(0, 0, 1, 1), 1);
        y.publish();
        next.due("none of now after the last", y.count(2), 0);
    }

    private static void promise8Throws() {
        Edge edge = new Edge(8, "Throws `IllegalStateException` if 24 months are published");
        edge.lets(Scene.EMPTY, "the 1st", BasketryOffice::publish);
        edge.lets(Scene.NEARLY_FULL, "the 24th", BasketryOffice::publish);
        edge.refuses(Scene.FULL, STATE, "the 25th", BasketryOffice::publish);
        BasketryOffice x = Scene.FULL.make();
        long paid = x.ofContract(0, 3);
        for (int time = 0; time < 3; time++) {
            edge.due("again and again", Check.outcome(x::publish), "IllegalStateException");
        }
        edge.due("none of them pays", x.ofContract(0, 3), paid);
    }

    // ---- promise 9

    private static void promise9Ranges() {
        Edge month = new Edge(9, "`month`: its month");
        month.none(Scene.ORDINARY, 0, 1, PLACE, (x, number) -> x.fix(number, 0, 0, 1));
        month.none(Scene.FULL, 0, 23, PLACE, (x, number) -> x.fix(number, 0, 0, 1));
        month.none(Scene.EMPTY, 0, -1, PLACE, (x, number) -> x.fix(number, 0, 0, 1));
        month.lets(Scene.FULL, "0", x -> x.fix(0, 0, 0, 1));
        month.lets(Scene.FULL, "23", x -> x.fix(23, 11, 3, 1));
        Edge item = new Edge(9, "`item`: its number");
        item.range(Scene.ORDINARY, 0, 2, PLACE, (x, number) -> x.fix(0, number, 0, 1));
        item.none(Scene.FULL, 0, 11, PLACE, (x, number) -> x.fix(0, number, 0, 1));
        Edge outlet = new Edge(9, "`outlet`: 0 to 3");
        outlet.none(Scene.ORDINARY, 0, 3, PLACE, (x, number) -> x.fix(0, 1, number, 1));
        outlet.lets(Scene.FULL, "0", x -> x.fix(0, 0, 0, 1));
        outlet.lets(Scene.FULL, "3", x -> x.fix(0, 3, 3, 1));
        new Edge(9, "`cents`: 1 to 100000")
                .range(Scene.ORDINARY, 1, 100000, ARGUMENT, (x, cents) -> x.fix(0, 0, 0, cents));
    }

    private static void promise9Returns() {
        Edge edge = new Edge(9, "Returns the cents that it had, be it told or fixed.");
        BasketryOffice x = Scene.FULL.make();
        edge.due("told", x.fix(0, 10, 2, 100000), 110);
        edge.due("fixed to the greatest", x.fix(0, 10, 2, 1), 100000);
        edge.due("fixed to the least", x.fix(0, 10, 2, 1), 1);
        edge.due("fixed to the same", x.fix(0, 10, 2, 110), 1);
        edge.due("fixed back", x.fix(0, 10, 2, 110), 110);
        edge.due("told, in the last month", x.fix(23, 11, 3, 5), 400);
        Edge quote = new Edge(9, "Fixes a QUOTE of a published month.");
        quote.due("three quotes, each counted once", x.count(4), 3);
        BasketryOffice y = Scene.ORDINARY.make();
        y.fix(0, 0, 0, 50);
        quote.due("the price stays", y.price(0, 0, 0), 1.0);
        quote.due("its outlet alone", y.fix(0, 0, 1, 200), 200);
        quote.due("its month alone", y.fix(1, 0, 0, 120), 120);
        quote.due("its item alone", y.fix(0, 2, 0, 300), 300);
    }

    private static void promise9Throws() {
        Edge place = new Edge(9,
                "Throws `IndexOutOfBoundsException` if the month is not published, or there is no such ITEM or OUTLET");
        place.refuses(Scene.ORDINARY, PLACE, "none of them, nor cents", x -> x.fix(2, 3, 4, 0));
        place.refuses(Scene.ORDINARY, PLACE, "now, with a quote", x -> x.fix(2, 0, 0, 1));
        place.refuses(Scene.ORDINARY, PLACE, "the item 3, nor cents", x -> x.fix(0, 3, 0, 0));
        place.refuses(Scene.ORDINARY, PLACE, "the outlet -1 of the item 1, nor cents", x -> x.fix(0, 1, -1, 0));
        Edge argument = new Edge(9, "Throws `IllegalArgumentException` if cents is out of range");
        argument.refuses(Scene.ORDINARY, ARGUMENT, "0, without a quote", x -> x.fix(0, 0, 3, 0));
        argument.refuses(Scene.ORDINARY, ARGUMENT, "100001, without a quote", x -> x.fix(1, 1, 0, 100001));
        Edge state = new Edge(9, "Throws `IllegalStateException` if there is no QUOTE");
        state.refuses(Scene.ORDINARY, STATE, "at that outlet", x -> x.fix(0, 0, 3, 1));
        state.refuses(Scene.ORDINARY, STATE, "in that month", x -> x.fix(1, 1, 0, 1));
        state.refuses(Scene.ORDINARY, STATE, "a price only", x -> x.fix(1, 1, 0, 100));
        state.refuses(Scene.NEARLY_FULL, STATE, "ahead of the first quote", x -> x.fix(22, 10, 1, 1));
        state.refuses(Scene.FULL, STATE, "only a link", x -> x.fix(23, 10, 1, 1));
        state.refuses(Scene.FULL, STATE, "ahead of the item", x -> x.fix(0, 11, 3, 1));
    }

    // ---- promise 10

    private static void promise10Ranges() {
        for (Scene scene : new Scene[] {Scene.ORDINARY, Scene.NEARLY_FULL}) {
            new Edge(10, "`wage`: 1 to 1000000000")
                    .range(scene, 1, 1000000000, ARGUMENT, (x, wage) -> x.contract(wage, 0, 0, true));
            new Edge(10, "`lag`: 0 to 3").range(scene, 0, 3, ARGUMENT, (x, lag) -> x.contract(1, lag, 0, true));
            new Edge(10, "`trigger`: 0 to 500")
                    .range(scene, 0, 500, ARGUMENT, (x, trigger) -> x.contract(1, 0, trigger, true));
            Edge floor = new Edge(10, "`hasFloor`: whether it has a floor");
            floor.lets(scene, "with one", x -> x.contract(1, 3, 500, true));
            floor.lets(scene, "without", x -> x.contract(1, 3, 500, false));
        }
    }

    private static void promise10Returns() {
        Edge edge = new Edge(10, "Returns its number.");
        BasketryOffice x = new BasketryOffice();
        for (int number = 0; number < 10; number++) {
            x.publish();
            edge.due("from 0 to 9", x.contract(1000000000, 3, 500, false), number);
        }
        Edge told = new Edge(10, "Tells a contract.");
        publish(x, 14);
        for (int number = 0; number < 10; number++) {
            told.due("each by itself, paid", x.ofContract(number, 3), (23 - number) * 1000000000L);
        }
    }

    private static void promise10Throws() {
        Edge argument = new Edge(10, "Throws `IllegalArgumentException` if an argument is out of range");
        argument.refuses(Scene.EMPTY, ARGUMENT, "the wage, nothing published", x -> x.contract(0, 0, 0, true));
        argument.refuses(Scene.EMPTY, ARGUMENT, "the lag, nothing published", x -> x.contract(1, 4, 0, true));
        argument.refuses(Scene.EMPTY, ARGUMENT, "the trigger, nothing published", x -> x.contract(1, 0, 501, true));
        argument.refuses(Scene.FULL, ARGUMENT, "the wage, with 10", x -> x.contract(1000000001, 0, 0, true));
        argument.refuses(Scene.FULL, ARGUMENT, "the lag, with 10", x -> x.contract(1, -1, 0, true));
        argument.refuses(Scene.FULL, ARGUMENT, "the trigger, with 10", x -> x.contract(1, 0, -1, true));
        argument.refuses(Scene.ORDINARY, ARGUMENT, "all", x -> x.contract(FAR, FAR, FAR, true));
        Edge state = new Edge(10, "Throws `IllegalStateException` if nothing is published, or there are 10");
        state.refuses(Scene.EMPTY, STATE, "nothing published", x -> x.contract(1, 0, 0, true));
        BasketryOffice first = new BasketryOffice();
        first.publish();
        state.due("one month published", first.contract(1, 0, 0, true), 0);
        state.lets(Scene.NEARLY_FULL, "the 10th", x -> x.contract(1, 0, 0, true));
        state.refuses(Scene.FULL, STATE, "the 11th", x -> x.contract(1, 0, 0, true));
        BasketryOffice late = new BasketryOffice();
        publish(late, 24);
        state.due("with 24 months published", late.contract(1, 0, 0, true), 0);
    }
}
