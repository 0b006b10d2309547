import java.util.function.IntFunction;

/** Promises 11 to 27: what is asked. */
public final class AskingTest {
    private static final Check CHECK = new Check();
    private static final Class<IndexOutOfBoundsException> PLACE = IndexOutOfBoundsException.class;
    private static final int CARLI = BasketryOffice.CARLI;
    private static final int DUTOT = BasketryOffice.DUTOT;
    private static final int HARMONIC = BasketryOffice.HARMONIC;

    private AskingTest() { }

    public static void main(String[] args) {
        promise11Price();
        promise12IsMatched();
        promise13Relative();
        promise14Bounce();
        promise15OfGroup();
        promise16Share();
        promise17Index();
        promise18IndexAnew();
        promise19Corrected();
        promise20Published();
        promise21Growth();
        promise22Core();
        promise23Direct();
        promise24Doubts();
        promise25OfContract();
        promise26Owed();
        promise26OwedByKind0();
        promise27Count();
        CHECK.end("AskingTest");
    }

    private static void due(String what, Object got, Object want) {
        CHECK.due(what, got, want);
    }

    private static BasketryOffice items(int mean, int... groups) {
        BasketryOffice x = new BasketryOffice();
        for (int group : groups) {
            x.item(group, mean, 4095);
        }
        return x;
    }

    /** Tells 100 grams at the first outlets of an item; 0 cents are not told. */
    private static void tell(BasketryOffice x, int item, int... cents) {
        for (int outlet = 0; outlet < cents.length; outlet++) {
            if (cents[outlet] > 0) {
                x.quote(item, outlet, cents[outlet], 100);
            }
        }
    }

    private static int publish(BasketryOffice x, int... cents) {
        tell(x, 0, cents);
        return x.publish();
    }

    /** The number from 0 to the greatest are answered; those around them are refused. */
    private static void range(String what, int greatest, IntFunction<Object> call) {
        int[] beyond = {Integer.MIN_VALUE, -2, -1, greatest + 1, greatest + 2, Integer.MAX_VALUE};
        for (int number : beyond) {
            CHECK.dueThrow(what + " " + number, PLACE, () -> call.apply(number));
        }
        for (int number = 0; number <= greatest; number++) {
            int asked = number;
            due(what + " " + number, Check.outcome(() -> call.apply(asked)), "nothing thrown");
        }
    }

    private static void promise11Price() {
        BasketryOffice x = items(CARLI, 0);
        range("11: month before the first", -1, month -> x.price(0, 0, month));
        publish(x, 100, 200, 300);
        publish(x, 120, 0, 901);
        range("11: item", 0, item -> x.price(item, 0, 1));
        range("11: outlet", 3, outlet -> x.price(0, outlet, 1));
        range("11: month", 1, month -> x.price(0, 0, month));
        due("11: of the month 0", x.price(0, 1, 0), 2.0);
        due("11: none", x.price(0, 3, 0), 0.0);
        due("11: matched", x.price(0, 0, 1), 1.2);
        due("11: no quote", x.price(0, 1, 1), 2.0 * 1.2);
        due("11: a quote that is not matched", x.price(0, 2, 1), 3.0 * 1.2);
        due("11: none still", x.price(0, 3, 1), 0.0);
        publish(x, 0, 0, 0, 500);
        due("11: no relative", x.price(0, 1, 2), 2.0 * 1.2);
        due("11: a quote and no base", x.price(0, 3, 2), 5.0);
        x.publish();
        due("11: no quote at all", x.price(0, 3, 3), 5.0);
        x.item(0, CARLI, 4095);
        due("11: an item that is told later", x.price(1, 0, 3), 0.0);
        BasketryOffice summer = new BasketryOffice();
        summer.item(0, CARLI, 1);
        summer.quote(0, 0, 300, 200);
        summer.publish();
        summer.publish();
        due("11: out of season", summer.price(0, 0, 1), 1.5);
        BasketryOffice falling = items(CARLI, 0);
        falling.quote(0, 0, 100, 1);
        falling.quote(0, 1, 50, 100);
        falling.publish();
        due("11: one gram", falling.price(0, 0, 0), 100.0);
        falling.quote(0, 0, 80, 1);
        falling.link(0, 1, 7, 1);
        falling.publish();
        due("11: by a relative below 1.0", falling.price(0, 1, 1), 0.5 * 0.8);
        falling.publish();
        due("11: a link of one gram", falling.price(0, 1, 2), 7.0);
    }

    private static void promise12IsMatched() {
        BasketryOffice x = items(CARLI, 0);
        publish(x, 300, 300, 300, 300);
        range("12: item", 0, item -> x.isMatched(item, 0, 0));
        range("12: outlet", 3, outlet -> x.isMatched(0, outlet, 0));
        range("12: month", 0, month -> x.isMatched(0, 0, month));
        due("12: not in the month 0", x.isMatched(0, 0, 0), false);
        publish(x, 900, 901, 100, 99);
        due("12: 3 times", x.isMatched(0, 0, 1), true);
        due("12: a bit more", x.isMatched(0, 1, 1), false);
        due("12: a third", x.isMatched(0, 2, 1), true);
        due("12: a bit less", x.isMatched(0, 3, 1), false);
        BasketryOffice y = items(CARLI, 0);
        publish(y, 300, 300, 300, 300);
        tell(y, 0, 9000, 9001, 10, 9);
        for (int outlet = 0; outlet < 4; outlet++) {
            y.confirm(0, outlet);
        }
        y.publish();
        due("12: confirmed, 30 times", y.isMatched(0, 0, 1), true);
        due("12: confirmed, a bit more", y.isMatched(0, 1, 1), false);
        due("12: confirmed, a thirtieth", y.isMatched(0, 2, 1), true);
        due("12: confirmed, a bit less", y.isMatched(0, 3, 1), false);
        BasketryOffice z = items(CARLI, 0);
        publish(z, 100);
        publish(z, 0, 100);
        due("12: no quote", z.isMatched(0, 0, 1), false);
        due("12: no base", z.isMatched(0, 1, 1), false);
        publish(z, 0, 100);
        due("12: a base by then", z.isMatched(0, 1, 2), true);
    }

    private static void promise13Relative() {
        double[] want = {
            (0.0 + 1.2 / 1.0 + 2.2 / 2.0 + 2.7 / 3.0) / 3.0,
            (0.0 + 1.2 + 2.2 + 2.7) / (0.0 + 1.0 + 2.0 + 3.0),
            3.0 / (0.0 + 1.0 / (1.2 / 1.0) + 1.0 / (2.2 / 2.0) + 1.0 / (2.7 / 3.0))};
        for (int mean = CARLI; mean <= HARMONIC; mean++) {
            BasketryOffice x = items(mean, 0);
            publish(x, 100, 200, 300, 100);
            publish(x, 120, 220, 270, 500);
            due("13: mean " + mean, x.relative(0, 1), want[mean]);
            due("13: the month 0, mean " + mean, x.relative(0, 0), 0.0);
            x.publish();
            due("13: none, mean " + mean, x.relative(0, 2), 0.0);
            range("13: item", 0, item -> x.relative(item, 1));
            range("13: month", 2, month -> x.relative(0, month));
        }
    }

    private static void promise14Bounce() {
        double[] want = {
            (1.2 / 1.0 + 1.8 / 2.0) / 2.0 * ((1.0 / 1.2 + 2.0 / 1.8) / 2.0),
            (1.2 + 1.8) / (1.0 + 2.0) * ((1.0 + 2.0) / (1.2 + 1.8)),
            2.0 / (1.0 / (1.2 / 1.0) + 1.0 / (1.8 / 2.0)) * (2.0 / (1.0 / (1.0 / 1.2) + 1.0 / (2.0 / 1.8)))};
        for (int mean = CARLI; mean <= HARMONIC; mean++) {
            BasketryOffice x = items(mean, 0, 0);
            tell(x, 1, 100);
            publish(x, 100, 200, 100);
            tell(x, 1, 150);
            publish(x, 120, 180, 301);
            due("14: mean " + mean, x.bounce(0, 1), want[mean]);
            due("14: the month 0, mean " + mean, x.bounce(0, 0), 0.0);
            x.publish();
            due("14: no relative, mean " + mean, x.bounce(0, 2), 0.0);
            range("14: item", 1, item -> x.bounce(item, 1));
            range("14: month", 2, month -> x.bounce(0, month));
        }
    }

    private static void promise15OfGroup() {
        BasketryOffice x = items(CARLI, 1, 1, 1, 3);
        for (int item = 0; item < 4; item++) {
            tell(x, item, 100);
        }
        x.publish();
        tell(x, 0, 110);
        tell(x, 2, 130);
        tell(x, 3, 90);
        x.publish();
        due("15: of those that have one", x.ofGroup(1, 1), (0.0 + 1.1 + 1.3) / 2.0);
        due("15: of one", x.ofGroup(3, 1), 0.9);
        due("15: of none", x.ofGroup(0, 1), 1.0);
        due("15: the month 0", x.ofGroup(1, 0), 1.0);
        range("15: group", 3, group -> x.ofGroup(group, 1));
        range("15: month", 1, month -> x.ofGroup(0, month));
        x.publish();
        due("15: no quotes", x.ofGroup(1, 2), 1.0);
    }

    private static void promise16Share() {
        BasketryOffice x = new BasketryOffice();
        x.spend(0, 0, 300);
        x.spend(0, 1, 100);
        x.spend(2, 1, 50);
        x.publish();
        x.adopt();
        x.publish();
        x.spend(0, 0, 0);
        x.spend(0, 1, 0);
        x.spend(2, 1, 0);
        x.publish();
        x.adopt();
        x.publish();
        double[][] want = {
            {300.0 / 450.0, 150.0 / 450.0, 0.0, 0.0},
            {(0.0 + 0.75 + 0.0) / 2.0, (0.0 + 0.25 + 1.0) / 2.0, 0.0, 0.0},
            {0.75, 0.25, 0.0, 0.0},
            {0.25, 0.25, 0.25, 0.25},
            {0.0, 1.0, 0.0, 0.0}};
        for (int kind = 0; kind < 5; kind++) {
            for (int group = 0; group < 4; group++) {
                String what = "16: kind " + kind + ", group " + group;
                due(what + ", nothing adopted", x.share(kind, group, 0), 0.25);
                due(what + ", adopted", x.share(kind, group, 1), want[kind][group]);
                due(what + ", told anew", x.share(kind, group, 2), want[kind][group]);
                due(what + ", nothing spent", x.share(kind, group, 3), 0.25);
            }
        }
        BasketryOffice poor = new BasketryOffice();
        poor.spend(1, 2, 1);
        poor.adopt();
        poor.publish();
        for (int kind = 0; kind < 5; kind++) {
            due("16: one cent, kind " + kind, poor.share(kind, 2, 0), kind == 2 || kind == 4 ? 0.25 : 1.0);
        }
        range("16: kind", 4, kind -> x.share(kind, 0, 0));
        range("16: group", 3, group -> x.share(0, group, 0));
        range("16: month", 3, month -> x.share(0, 0, month));
    }

    /** Shares of the kinds that differ, and two months of two groups. */
    private static BasketryOffice twoGroups() {
        BasketryOffice x = items(CARLI, 0, 1);
        x.spend(0, 0, 300);
        x.spend(0, 1, 100);
        x.spend(1, 1, 50);
        x.adopt();
        int[][] cents = {{100, 100}, {120, 90}, {150, 99}};
        for (int[] each : cents) {
            tell(x, 0, each[0]);
            tell(x, 1, each[1]);
            x.publish();
        }
        return x;
    }

    private static void promise17Index() {
        BasketryOffice x = twoGroups();
        double[][] shares = {
            {300.0 / 450.0, 150.0 / 450.0, 0.0, 0.0}, {0.375, 0.625, 0.0, 0.0},
            {0.75, 0.25, 0.0, 0.0}, {0.0, 1.0, 0.0, 0.0}, {0.25, 0.25, 0.25, 0.25}};
        double second = 0.99 / 0.9;
        for (int kind = 0; kind < 5; kind++) {
            double[] s = shares[kind];
            double first = 100.0 * (0.0 + s[0] * 1.2 + s[1] * 0.9 + s[2] * 1.0 + s[3] * 1.0);
            double next = first * (0.0 + s[0] * (1.5 / 1.2) + s[1] * second + s[2] * 1.0 + s[3] * 1.0);
            due("17: the first, kind " + kind, x.index(kind, 0), 100.0);
            due("17: the second, kind " + kind, x.index(kind, 1), first);
            due("17: the third, kind " + kind, x.index(kind, 2), next);
        }
        range("17: kind", 4, kind -> x.index(kind, 0));
        range("17: month", 2, month -> x.index(0, month));
    }

    private static void promise18IndexAnew() {
        BasketryOffice x = twoGroups();
        x.fix(1, 0, 0, 300);
        x.corrected(0, 2);
        x.item(2, CARLI, 4095);
        x.quote(0, 0, 77, 100);
        for (int kind = 0; kind < 5; kind++) {
            for (int month = 0; month < 3; month++) {
                due("18: kind " + kind + ", month " + month, x.indexAnew(kind, month), x.index(kind, month));
            }
        }
        due("18: not as fixed", x.indexAnew(2, 1), 100.0 * (0.0 + 0.75 * 1.2 + 0.25 * 0.9));
        range("18: kind", 4, kind -> x.indexAnew(kind, 0));
        range("18: month", 2, month -> x.indexAnew(0, month));
        BasketryOffice linked = items(CARLI, 0);
        publish(linked, 100);
        linked.link(0, 0, 200, 100);
        publish(linked, 110);
        publish(linked, 210);
        due("18: by the links", linked.indexAnew(0, 2), linked.index(0, 2));
    }

    private static void promise19Corrected() {
        BasketryOffice x = twoGroups();
        due("19: nothing fixed", x.corrected(2, 2), x.index(2, 2));
        x.fix(1, 0, 0, 150);
        double first = 100.0 * (0.0 + 0.75 * 1.5 + 0.25 * 0.9);
        due("19: the month of the fix", x.corrected(2, 1), first);
        due("19: the month after it", x.corrected(2, 2), first * (0.0 + 0.75 * 1.0 + 0.25 * (0.99 / 0.9)));
        due("19: the month before it", x.corrected(2, 0), 100.0);
        due("19: another group", x.corrected(3, 2), x.index(3, 2));
        x.fix(1, 0, 0, 120);
        due("19: fixed back", x.corrected(2, 2), x.index(2, 2));
        x.fix(1, 0, 0, 400);
        due("19: no match by the fix", x.corrected(2, 1), 100.0 * (0.0 + 0.75 * 1.0 + 0.25 * 0.9));
        due("19: from the price of the month 0", x.corrected(2, 2),
                100.0 * (0.0 + 0.75 * 1.0 + 0.25 * 0.9) * (0.0 + 0.75 * 1.5 + 0.25 * (0.99 / 0.9)));
        due("19: it is matched still", x.isMatched(0, 0, 1), true);
        x.fix(0, 0, 0, 240);
        due("19: of the month 0", x.corrected(2, 1), 100.0 * (0.0 + 0.75 * (4.0 / 2.4) + 0.25 * 0.9));
        range("19: kind", 4, kind -> x.corrected(kind, 0));
        range("19: month", 2, month -> x.corrected(0, month));
        confirmedFix();
    }

    private static void confirmedFix() {
        BasketryOffice x = items(CARLI, 0);
        publish(x, 100);
        x.quote(0, 0, 110, 100);
        x.confirm(0, 0);
        x.publish();
        x.fix(1, 0, 0, 3000);
        due("19: it was confirmed", x.corrected(0, 1), 100.0 * (0.0 + 0.25 * 30.0 + 0.25 + 0.25 + 0.25));
    }

    private static void promise20Published() {
        BasketryOffice x = items(CARLI, 0);
        range("20: nothing published", -1, x::published);
        publish(x, 100);
        publish(x, 120);
        due("20: the first", x.published(0), 1000);
        due("20: the second", x.published(1), 1050);
        range("20: month", 1, x::published);
        x.fix(1, 0, 0, 100);
        due("20: for ever", x.published(1), 1050);
    }

    private static void promise21Growth() {
        BasketryOffice x = items(CARLI, 0);
        x.spend(0, 0, 1);
        x.spend(1, 0, 8);
        x.spend(1, 1, 11);
        x.adopt();
        publish(x, 100);
        int[] cents = {103, 107, 107, 107, 107, 107, 107, 107, 107, 107, 107, 113, 121};
        for (int each : cents) {
            publish(x, each);
        }
        for (int month = -1; month < 12; month++) {
            int asked = month;
            CHECK.dueThrow("21: month " + month, PLACE, () -> x.growth(asked));
        }
        CHECK.dueThrow("21: month 14", PLACE, () -> x.growth(14));
        CHECK.dueThrow("21: a far month", PLACE, () -> x.growth(Integer.MAX_VALUE));
        for (int month = 12; month < 14; month++) {
            float want = (float) x.index(0, month) / (float) x.index(0, month - 12) - 1.0f;
            due("21: month " + month, x.growth(month), want);
        }
        float byDoubles = (float) (x.index(0, 13) / x.index(0, 1) - 1.0);
        due("21: doubles would answer another", x.growth(13) != byDoubles, true);
        due("21: but not far from it", Math.abs(x.growth(13) - byDoubles) < 1e-6f, true);
    }

    /** Four groups of one item each, at these cents after 100. */
    private static double coreAt(int... cents) {
        BasketryOffice x = items(CARLI, 0, 1, 2, 3);
        for (int item = 0; item < 4; item++) {
            tell(x, item, 100);
        }
        x.publish();
        for (int item = 0; item < 4; item++) {
            tell(x, item, cents[item]);
        }
        x.publish();
        return x.core(1);
    }

    private static void promise22Core() {
        due("22: in order", coreAt(101, 103, 107, 113), (0.0 + 1.03 + 1.07) / 2.0);
        due("22: the other way", coreAt(113, 107, 103, 101), (0.0 + 1.07 + 1.03) / 2.0);
        due("22: ends in the middle", coreAt(103, 113, 101, 107), (0.0 + 1.03 + 1.07) / 2.0);
        due("22: least, then greatest", coreAt(101, 113, 103, 107), (0.0 + 1.03 + 1.07) / 2.0);
        due("22: least, behind another", coreAt(103, 101, 113, 107), (0.0 + 1.03 + 1.07) / 2.0);
        due("22: two greatest", coreAt(113, 101, 113, 107), (0.0 + 1.13 + 1.07) / 2.0);
        due("22: two least", coreAt(101, 107, 101, 113), (0.0 + 1.07 + 1.01) / 2.0);
        due("22: three greatest", coreAt(120, 120, 120, 90), (0.0 + 1.2 + 1.2) / 2.0);
        due("22: three least", coreAt(120, 90, 90, 90), (0.0 + 0.9 + 0.9) / 2.0);
        due("22: all the same", coreAt(120, 120, 120, 120), 1.2);
        BasketryOffice x = items(CARLI, 0);
        range("22: nothing published", -1, x::core);
        x.publish();
        due("22: the month 0", x.core(0), 1.0);
        range("22: month", 0, x::core);
    }

    private static void promise23Direct() {
        BasketryOffice x = twoGroups();
        double s0 = 300.0 / 450.0;
        double s1 = 150.0 / 450.0;
        due("23: the month 0", x.direct(0), 100.0 * (0.0 + s0 * 1.0 + s1 * 1.0));
        due("23: the month 1", x.direct(1), 100.0 * (0.0 + s0 * 1.2 + s1 * 0.9));
        due("23: the month 2", x.direct(2),
                100.0 * (0.0 + s0 * (1.2 * (1.5 / 1.2)) + s1 * (0.9 * (0.99 / 0.9))));
        x.spend(0, 0, 0);
        x.adopt();
        x.publish();
        due("23: the shares of its month", x.direct(3), 100.0 * (0.0 + 0.0 + 1.0 * (0.9 * (0.99 / 0.9) * 1.0)));
        range("23: month", 3, x::direct);
    }

    private static void promise24Doubts() {
        BasketryOffice x = items(CARLI, 0, 0);
        tell(x, 0, 100, 100, 100);
        tell(x, 1, 100);
        x.publish();
        tell(x, 0, 301, 300, 32, 900);
        tell(x, 1, 1, 1);
        x.publish();
        due("24: the month 0", x.doubts(0), 0);
        due("24: not matched", x.doubts(1), 3);
        x.publish();
        due("24: no quotes", x.doubts(2), 0);
        range("24: month", 2, x::doubts);
        x.fix(1, 0, 0, 100);
        due("24: not as fixed", x.doubts(1), 3);
    }

    private static void promise25OfContract() {
        BasketryOffice x = items(CARLI, 0);
        publish(x, 100);
        range("25: no contract", -1, contract -> x.ofContract(contract, 0));
        publish(x, 140);
        x.contract(700, 1, 0, true);
        long[] atFirst = {700, 1100, 1, 0};
        for (int what = 0; what < 4; what++) {
            due("25: at first, " + what, x.ofContract(0, what), atFirst[what]);
        }
        publish(x, 280);
        x.publish();
        long[] then = {700 * 1375 / 1100, 1375, 2, 700 + 700 * 1375 / 1100};
        for (int what = 0; what < 4; what++) {
            due("25: then, " + what, x.ofContract(0, what), then[what]);
        }
        x.contract(1, 0, 0, true);
        range("25: contract", 1, contract -> x.ofContract(contract, 0));
        range("25: what", 3, what -> x.ofContract(0, what));
    }

    private static void promise26Owed() {
        BasketryOffice x = items(CARLI, 0);
        range("26: no contract", -1, x::owed);
        publish(x, 100);
        publish(x, 120);
        x.contract(1000, 0, 0, false);
        x.contract(1000, 0, 100, true);
        due("26: nothing paid", x.owed(0), 0L);
        publish(x, 240);
        due("26: nothing fixed", x.owed(0), 0L);
        due("26: the number that was published", x.published(2), 1313);
        due("26: paid by it", x.ofContract(0, 3), 1000L * 1313 / 1050);
        x.fix(1, 0, 0, 200);
        due("26: 1250 at first, as corrected", x.owed(0), 1000L * 1313 / 1250 - 1250);
        due("26: not triggered, as corrected", x.owed(1), 1000L - 1250);
        range("26: contract", 1, x::owed);
        x.fix(2, 0, 0, 300);
        due("26: two fixes", x.owed(0), 1000L * 1406 / 1250 - 1250);
        x.fix(1, 0, 0, 120);
        due("26: too little was paid", x.owed(0), 1000L * 1444 / 1050 - 1250);
        due("26: the wage stays", x.ofContract(0, 0), 1250L);
        due("26: the last number stays", x.ofContract(0, 1), 1313L);
        x.contract(500, 0, 0, true);
        due("26: nothing paid by a later one", x.owed(2), 0L);
        x.publish();
        due("26: nor owed without another number", x.owed(2), 0L);
    }

    private static void promise26OwedByKind0() {
        BasketryOffice x = items(CARLI, 0);
        x.spend(0, 0, 9);
        x.spend(1, 1, 1);
        x.adopt();
        publish(x, 100);
        x.contract(1000, 0, 0, true);
        publish(x, 110);
        due("26: by nine tenths of a tenth", x.ofContract(0, 0), 1090L);
        x.fix(1, 0, 0, 200);
        due("26: nine tenths more were due", x.owed(0), 1900L - 1090);
        x.fix(0, 0, 0, 200);
        due("26: nothing more was due", x.owed(0), 1000L - 1090);
    }

    private static void promise27Count() {
        BasketryOffice x = items(CARLI, 0, 1, 2);
        tell(x, 0, 1, 2, 3, 4);
        tell(x, 1, 1);
        x.publish();
        x.publish();
        x.contract(1, 0, 0, true);
        tell(x, 2, 5, 5, 5);
        x.fix(0, 0, 3, 9);
        x.fix(0, 1, 0, 9);
        x.fix(0, 1, 0, 8);
        int[] want = {3, 2, 3, 1, 2};
        for (int what = 0; what < 5; what++) {
            due("27: " + what, x.count(what), want[what]);
        }
        range("27: what", 4, x::count);
        x.publish();
        due("27: no quotes of now", x.count(2), 0);
    }
}
